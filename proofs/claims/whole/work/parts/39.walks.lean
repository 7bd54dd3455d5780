/-! EpochStoreModel.ask(III)V -/
def kf_EM_ask_122 (rec85 : xm → Int32 → Int32 → Option xm) (M : xm) (x2 : Int32) (x5 : Int32) : Option xm := rec85 M x2 (x5 + (1 : Int32))
def kb_EM_ask_85 (rec85 : xm → Int32 → Int32 → Option xm) (M : xm) (x2 : Int32) (x5 : Int32) : Option xm := if (3 : Int32) ≤ x5 then (some M) else (xMi M 18 x2).bind fun v1 => if ((v1 >>> (x5 &&& 31)) &&& (1 : Int32)) = (1 : Int32) then ((xMi M 24 x2).bind fun v2 => xp (kf_EM_send_0 M (2 : Int32) x5 x2 (0 : Int32) v2) fun r4 M3 => kf_EM_ask_122 rec85 M3 x2 x5) else kf_EM_ask_122 rec85 M x2 x5
def kf_EM_ask_85 : Nat → xm → Int32 → Int32 → Option xm
  | 0 => fun _ _ _ => none
  | n + 1 => kb_EM_ask_85 (kf_EM_ask_85 n)
def kf_EM_ask_74 (M : xm) (x2 : Int32) (x4 : Int32) : Option xm := (xMt M 29 x4 (0 : Int32)).bind fun M1 => kf_EM_ask_85 1000 M1 x2 (0 : Int32)
def kf_EM_ask_35 (M : xm) (x1 : Int32) (x2 : Int32) (x3 : Int32) (x4 : Int32) : Option xm := (xMi M 24 x2).bind fun v1 => (xMt M 24 x2 (v1 + (1 : Int32))).bind fun M2 => (xMi M2 24 x2).bind fun v3 => (xMt M2 26 x4 v3).bind fun M4 => (xMt M4 27 x4 x1).bind fun M5 => (xMt M5 28 x4 x3).bind fun M6 => kf_EM_ask_74 M6 x2 x4
def kf_EM_ask_0 (M : xm) (x1 : Int32) (x2 : Int32) (x3 : Int32) : Option xm := (xMi M 25 x2).bind fun v1 => if v1 = (8 : Int32) then (some M) else (xMi M 25 x2).bind fun v2 => (xMi M 25 x2).bind fun v3 => (xMt M 25 x2 (v3 + (1 : Int32))).bind fun M4 => kf_EM_ask_35 M4 x1 x2 x3 (((8 : Int32) * x2) + v2)
/-! EpochStoreModel.confirmed(III)V -/
def kf_EM_confirmed_163 (rec115 : xm → Int32 → Int32 → Option xm) (M : xm) (x2 : Int32) (x5 : Int32) : Option xm := (xMi M 28 (x5 + (1 : Int32))).bind fun v1 => (xMt M 28 x5 v1).bind fun M2 => (xMi M2 29 (x5 + (1 : Int32))).bind fun v3 => (xMt M2 29 x5 v3).bind fun M4 => rec115 M4 x2 (x5 + (1 : Int32))
def kb_EM_confirmed_115 (rec115 : xm → Int32 → Int32 → Option xm) (M : xm) (x2 : Int32) (x5 : Int32) : Option xm := (xMi M 25 x2).bind fun v1 => if (((8 : Int32) * x2) + v1) ≤ x5 then (some M) else (xMi M 26 (x5 + (1 : Int32))).bind fun v2 => (xMt M 26 x5 v2).bind fun M3 => (xMi M3 27 (x5 + (1 : Int32))).bind fun v4 => (xMt M3 27 x5 v4).bind fun M5 => kf_EM_confirmed_163 rec115 M5 x2 x5
def kf_EM_confirmed_115 : Nat → xm → Int32 → Int32 → Option xm
  | 0 => fun _ _ _ => none
  | n + 1 => kb_EM_confirmed_115 (kf_EM_confirmed_115 n)
def kf_EM_confirmed_101 (M : xm) (x2 : Int32) (x4 : Int32) : Option xm := (xMi M 25 x2).bind fun v1 => (xMt M 25 x2 (v1 - (1 : Int32))).bind fun M2 => kf_EM_confirmed_115 1000 M2 x2 x4
def kf_EM_confirmed_51 (M : xm) (x2 : Int32) (x4 : Int32) : Option xm := (xMi M 29 x4).bind fun v1 => (xMi M 18 x2).bind fun v2 => (xMi M 18 x2).bind fun v3 => if (v1 &&& v2) = v3 then ((xMi M 27 x4).bind fun v4 => (xMi M 22 x2).bind fun v5 => (xMi M 28 x4).bind fun v6 => xp (kf_EM_send_0 M (4 : Int32) v4 x2 v5 v6) fun r8 M7 => kf_EM_confirmed_101 M7 x2 x4) else some M
def kf_EM_confirmed_205 (rec6 : xm → Int32 → Int32 → Int32 → Int32 → Option xm) (M : xm) (x1 : Int32) (x2 : Int32) (x3 : Int32) (x4 : Int32) : Option xm := rec6 M x1 x2 x3 x4
def kb_EM_confirmed_6 (rec6 : xm → Int32 → Int32 → Int32 → Int32 → Option xm) (M : xm) (x1 : Int32) (x2 : Int32) (x3 : Int32) (x4 : Int32) : Option xm := (xMi M 25 x2).bind fun v1 => if (((8 : Int32) * x2) + v1) ≤ x4 then (some M) else (xMi M 26 x4).bind fun v2 => if v2 = x3 then ((xMi M 29 x4).bind fun v3 => (xMt M 29 x4 (v3 ||| ((1 : Int32) <<< (x1 &&& 31)))).bind fun M4 => kf_EM_confirmed_51 M4 x2 x4) else kf_EM_confirmed_205 rec6 M x1 x2 x3 (x4 + (1 : Int32))
def kf_EM_confirmed_6 : Nat → xm → Int32 → Int32 → Int32 → Int32 → Option xm
  | 0 => fun _ _ _ _ _ => none
  | n + 1 => kb_EM_confirmed_6 (kf_EM_confirmed_6 n)
def kf_EM_confirmed_0 (M : xm) (x1 : Int32) (x2 : Int32) (x3 : Int32) : Option xm := kf_EM_confirmed_6 1000 M x1 x2 x3 ((8 : Int32) * x2)
/-! EpochStoreModel.result(IIIII)V -/
def kf_EM_result_0 (M : xm) (x1 : Int32) (x2 : Int32) (x3 : Int32) (x4 : Int32) (x5 : Int32) : Option xm := xp (kf_EM_send_0 M (8 : Int32) x1 x2 x3 x4) fun r2 M1 => (xMt M1 54 r2 x5).bind fun M3 => some M3
/-! EpochStoreModel.finds(III)Z -/
def kf_EM_finds_51 (rec6 : xm → Int32 → Int32 → Int32 → Int32 → Int32 → Option (Int32 × xm)) (M : xm) (x1 : Int32) (x2 : Int32) (x3 : Int32) (x5 : Int32) : Option (Int32 × xm) := rec6 M x1 x2 x3 (1 : Int32) (x5 + (1 : Int32))
def kf_EM_finds_114 (rec67 : xm → Int32 → Int32 → Int32 → Int32 → Option (Int32 × xm)) (M : xm) (x1 : Int32) (x2 : Int32) (x4 : Int32) (x5 : Int32) : Option (Int32 × xm) := rec67 M x1 x2 x4 (x5 + (1 : Int32))
def kb_EM_finds_67 (rec67 : xm → Int32 → Int32 → Int32 → Int32 → Option (Int32 × xm)) (M : xm) (x1 : Int32) (x2 : Int32) (x4 : Int32) (x5 : Int32) : Option (Int32 × xm) := if (8 : Int32) ≤ x5 then ((xZ x4).bind fun z1 => some (z1, M)) else if x4 = 0 then ((xMi M 54 (24 : Int32)).bind fun v3 => if ((x2 &&& v3) &&& ((1 : Int32) <<< (x5 &&& 31))) = 0 then (kf_EM_finds_114 rec67 M x1 x2 x4 x5) else (xMi M 20 x1).bind fun v4 => (xMt M 23 (((8 : Int32) * x1) + x5) v4).bind fun M5 => kf_EM_finds_114 rec67 M5 x1 x2 x4 x5) else (xZ x4).bind fun z2 => some (z2, M)
def kf_EM_finds_67 : Nat → xm → Int32 → Int32 → Int32 → Int32 → Option (Int32 × xm)
  | 0 => fun _ _ _ _ _ => none
  | n + 1 => kb_EM_finds_67 (kf_EM_finds_67 n)
def kb_EM_finds_6 (rec6 : xm → Int32 → Int32 → Int32 → Int32 → Int32 → Option (Int32 × xm)) (M : xm) (x1 : Int32) (x2 : Int32) (x3 : Int32) (x4 : Int32) (x5 : Int32) : Option (Int32 × xm) := if (8 : Int32) ≤ x5 then (kf_EM_finds_67 1000 M x1 x2 x4 (0 : Int32)) else if x4 = 0 then ((xMi M 53 (24 : Int32)).bind fun v1 => if ((x2 &&& v1) &&& ((1 : Int32) <<< (x5 &&& 31))) = 0 then (rec6 M x1 x2 x3 (0 : Int32) (x5 + (1 : Int32))) else (xMi M 23 (((8 : Int32) * x1) + x5)).bind fun v2 => if v2 ≤ x3 then (rec6 M x1 x2 x3 (0 : Int32) (x5 + (1 : Int32))) else kf_EM_finds_51 rec6 M x1 x2 x3 x5) else kf_EM_finds_51 rec6 M x1 x2 x3 x5
def kf_EM_finds_6 : Nat → xm → Int32 → Int32 → Int32 → Int32 → Int32 → Option (Int32 × xm)
  | 0 => fun _ _ _ _ _ _ => none
  | n + 1 => kb_EM_finds_6 (kf_EM_finds_6 n)
def kf_EM_finds_0 (M : xm) (x1 : Int32) (x2 : Int32) (x3 : Int32) : Option (Int32 × xm) := kf_EM_finds_6 1000 M x1 x2 x3 (0 : Int32) (0 : Int32)
section KW14
variable {p : Program} {l : Launch} {e : Env} {s : State} {m : MethodId} {args : Array Value} {below : List Frame} {meth : Method} {c : Code} {H : Heap} {locs : List Loc} {ls : Array Slot} {E : xe} {K K' : xk} {M M' : xm}
set_option maxHeartbeats 4000000 in
set_option maxRecDepth 100000 in
theorem kw_EM_ask_122 {rec85 : xm → Int32 → Int32 → Option xm} {x2 : Int32} {x5 : Int32} (C : xx_C p m c b_EM_ask 6 s args Rn_EM E) (hlk : meth.locks = false) (hr : meth.sig.returnType = none) (hin : meth.name = "ask") (hg : xe_g E = true) (hrec85 : ∀ {H : Heap} {locs : List Loc} {ls : Array Slot} {M : xm} {x2 : Int32} {x5 : Int32}, xx_S E K M s H locs → lv_has ls 6 [(0, .ref (xe_om E)), (2, .int x2), (5, .int x5)] → rec85 M x2 x5 = some M' → W p l e { frames := 1, cells := 0, slots := 0, locals := 26 } s m args below meth c H locs 0 0 (MQ below (xq_v E K M') args s 0 0 (xe_A E)) (F0 m 85 ls [])) (X : xx_S E K M s H locs) (hl : lv_has ls 6 [(0, .ref (xe_om E)), (2, .int x2), (5, .int x5)]) (h : kf_EM_ask_122 rec85 M x2 x5 = some M') : W p l e { frames := 1, cells := 0, slots := 0, locals := 26 } s m args below meth c H locs 0 0 (MQ below (xq_v E K M') args s 0 0 (xe_A E)) (F0 m 122 ls []) := by
  have hx := C.1.1
  have hb := C.1.2.1
  unfold kf_EM_ask_122 at h
  refine lv_iinc (k := 2) (v := (x5 + (1 : Int32))) hx hb d_EM_ask_122 hl rfl (congrArg (fun y : Int32 => x5 + y) kn_i_1) (by decide) rfl (fun ls hl => ?_)
  have hl : lv_has ls 6 [(5, .int (x5 + (1 : Int32))), (0, .ref (xe_om E)), (2, .int x2)] := hl
  refine lv_goto (tgt := 85) hx hb d_EM_ask_125 (by decide +kernel) ?_
  exact hrec85 (x2 := x2) (x5 := (x5 + (1 : Int32))) X (lv_sub hl [1, 2, 0] rfl) h
set_option maxHeartbeats 4000000 in
set_option maxRecDepth 100000 in
theorem kwb_EM_ask_85 {rec85 : xm → Int32 → Int32 → Option xm} {x2 : Int32} {x5 : Int32} (C : xx_C p m c b_EM_ask 6 s args Rn_EM E) (hlk : meth.locks = false) (hr : meth.sig.returnType = none) (hin : meth.name = "ask") (hg : xe_g E = true) (hrec85 : ∀ {H : Heap} {locs : List Loc} {ls : Array Slot} {M : xm} {x2 : Int32} {x5 : Int32}, xx_S E K M s H locs → lv_has ls 6 [(0, .ref (xe_om E)), (2, .int x2), (5, .int x5)] → rec85 M x2 x5 = some M' → W p l e { frames := 1, cells := 0, slots := 0, locals := 26 } s m args below meth c H locs 0 0 (MQ below (xq_v E K M') args s 0 0 (xe_A E)) (F0 m 85 ls [])) (X : xx_S E K M s H locs) (hl : lv_has ls 6 [(0, .ref (xe_om E)), (2, .int x2), (5, .int x5)]) (h : kb_EM_ask_85 rec85 M x2 x5 = some M') : W p l e { frames := 1, cells := 0, slots := 0, locals := 26 } s m args below meth c H locs 0 0 (MQ below (xq_v E K M') args s 0 0 (xe_A E)) (F0 m 85 ls []) := by
  have hx := C.1.1
  have hb := C.1.2.1
  unfold kb_EM_ask_85 at h
  refine lv_iload hx hb d_EM_ask_85 (lv_at hl 2 rfl) ?_
  refine lv_iconst hx hb d_EM_ask_87 kn_i_3 ?_
  refine lv_icmp_ge (tgt := 128) hx hb d_EM_ask_88 (by decide +kernel) (fun hc => ?_) (fun hc => ?_)
  · rw [if_pos hc] at h
    obtain rfl := Option.some.inj h
    exact xr_vret C X hlk hr d_EM_ask_128 (Nat.le_of_ble_eq_true rfl) (Nat.le_of_ble_eq_true rfl)
  · rw [if_neg hc] at h
    refine lv_aload_n hx hb d_EM_ask_91 rfl (lv_at hl 0 rfl) ?_
    refine xr_mga C X hg xc_EM 18 (by decide) (by decide) (by decide) m_480 d_EM_ask_92 ?_
    refine lv_iload_n hx hb d_EM_ask_95 rfl (lv_at hl 1 rfl) ?_
    replace h := xb h
    obtain ⟨v1, hv, h⟩ := h
    refine xr_mld C X hg 18 (by decide) (by decide) rfl d_EM_ask_96 hv ?_
    refine lv_iload hx hb d_EM_ask_97 (lv_at hl 2 rfl) ?_
    refine lv_ishr hx hb d_EM_ask_99 ?_
    refine lv_iconst hx hb d_EM_ask_100 kn_i_1 ?_
    refine lv_iand hx hb d_EM_ask_101 ?_
    refine lv_iconst hx hb d_EM_ask_102 kn_i_1 ?_
    refine lv_icmp_ne (tgt := 122) hx hb d_EM_ask_103 (by decide +kernel) (fun hc => ?_) (fun hc => ?_)
    · rw [if_neg hc] at h
      exact kw_EM_ask_122 (x2 := x2) (x5 := x5) C hlk hr hin hg hrec85  X (lv_sub hl [0, 1, 2] rfl) h
    · rw [if_pos hc] at h
      refine lv_aload_n hx hb d_EM_ask_106 rfl (lv_at hl 0 rfl) ?_
      refine lv_iconst hx hb d_EM_ask_107 kn_i_2 ?_
      refine lv_iload hx hb d_EM_ask_108 (lv_at hl 2 rfl) ?_
      refine lv_iload_n hx hb d_EM_ask_110 rfl (lv_at hl 1 rfl) ?_
      refine lv_iconst hx hb d_EM_ask_111 kn_i_0 ?_
      refine lv_aload_n hx hb d_EM_ask_112 rfl (lv_at hl 0 rfl) ?_
      refine xr_mga C X hg xc_EM 24 (by decide) (by decide) (by decide) m_486 d_EM_ask_113 ?_
      refine lv_iload_n hx hb d_EM_ask_116 rfl (lv_at hl 1 rfl) ?_
      replace h := xb h
      obtain ⟨v2, hv, h⟩ := h
      refine xr_mld C X hg 24 (by decide) (by decide) rfl d_EM_ask_117 hv ?_
      replace h := xpb h
      obtain ⟨r4, M3, hv, h⟩ := h
      refine xr_ki (va_runV (As := [.int (2 : Int32), .int x5, .int x2, .int (0 : Int32), .int v2]) (rest := []) C.1 (kc_EM_send l E hg hv) (cwV 5 C.1.2.2.2.2 (xw_V m_528 m_529 m_530 m_521 m_531) rfl rfl rfl ky_EM_send ⟨(Nat.le_of_ble_eq_true rfl), (Nat.le_of_ble_eq_true rfl)⟩) (xr_pV C X xc_EM.1 (xk_Xw (X.1.2.2.2.2.2 hg).1)) rfl rfl hl.1 rfl (lv_room (Nat.le_of_ble_eq_true rfl)) d_EM_ask_118 ⟨(Nat.le_of_ble_eq_true rfl), (Nat.le_of_ble_eq_true rfl)⟩) X (fun H locs X => ?_)
      refine lv_pop hx hb d_EM_ask_121 rfl ?_
      exact kw_EM_ask_122 (x2 := x2) (x5 := x5) C hlk hr hin hg hrec85  X (lv_sub hl [0, 1, 2] rfl) h
theorem kw_EM_ask_85 (C : xx_C p m c b_EM_ask 6 s args Rn_EM E) (hlk : meth.locks = false) (hr : meth.sig.returnType = none) (hin : meth.name = "ask") (hg : xe_g E = true) : ∀ (n : Nat) {H : Heap} {locs : List Loc} {ls : Array Slot} {M : xm} {x2 : Int32} {x5 : Int32}, xx_S E K M s H locs → lv_has ls 6 [(0, .ref (xe_om E)), (2, .int x2), (5, .int x5)] → kf_EM_ask_85 n M x2 x5 = some M' → W p l e { frames := 1, cells := 0, slots := 0, locals := 26 } s m args below meth c H locs 0 0 (MQ below (xq_v E K M') args s 0 0 (xe_A E)) (F0 m 85 ls []) := by
  intro n
  induction n with
  | zero => intro H locs ls M x2 x5 X hl h; exact nomatch (show (none : Option xm) = some _ from h)
  | succ n ih => intro H locs ls M x2 x5 X hl h; exact kwb_EM_ask_85 C hlk hr hin hg ih X hl h
set_option maxHeartbeats 4000000 in
set_option maxRecDepth 100000 in
theorem kw_EM_ask_74 {x2 : Int32} {x4 : Int32} (C : xx_C p m c b_EM_ask 6 s args Rn_EM E) (hlk : meth.locks = false) (hr : meth.sig.returnType = none) (hin : meth.name = "ask") (hg : xe_g E = true) (X : xx_S E K M s H locs) (hl : lv_has ls 6 [(0, .ref (xe_om E)), (2, .int x2), (4, .int x4)]) (h : kf_EM_ask_74 M x2 x4 = some M') : W p l e { frames := 1, cells := 0, slots := 0, locals := 26 } s m args below meth c H locs 0 0 (MQ below (xq_v E K M') args s 0 0 (xe_A E)) (F0 m 74 ls []) := by
  have hx := C.1.1
  have hb := C.1.2.1
  unfold kf_EM_ask_74 at h
  refine lv_aload_n hx hb d_EM_ask_74 rfl (lv_at hl 0 rfl) ?_
  refine xr_mga C X hg xc_EM 29 (by decide) (by decide) (by decide) m_491 d_EM_ask_75 ?_
  refine lv_iload hx hb d_EM_ask_78 (lv_at hl 2 rfl) ?_
  refine lv_iconst hx hb d_EM_ask_80 kn_i_0 ?_
  replace h := xb h
  obtain ⟨M1, hv, h⟩ := h
  refine xr_mst C X hg 29 (by decide) (by decide) rfl d_EM_ask_81 hv (fun H locs X => ?_)
  refine lv_iconst hx hb d_EM_ask_82 kn_i_0 ?_
  refine lv_istore hx hb d_EM_ask_83 hl (by decide) rfl (fun ls hl => ?_)
  have hl : lv_has ls 6 [(5, .int (0 : Int32)), (0, .ref (xe_om E)), (2, .int x2), (4, .int x4)] := hl
  exact kw_EM_ask_85 C hlk hr hin hg 1000 X (lv_sub hl [1, 2, 0] rfl) h
set_option maxHeartbeats 4000000 in
set_option maxRecDepth 100000 in
theorem kw_EM_ask_35 {x1 : Int32} {x2 : Int32} {x3 : Int32} {x4 : Int32} (C : xx_C p m c b_EM_ask 6 s args Rn_EM E) (hlk : meth.locks = false) (hr : meth.sig.returnType = none) (hin : meth.name = "ask") (hg : xe_g E = true) (X : xx_S E K M s H locs) (hl : lv_has ls 6 [(0, .ref (xe_om E)), (1, .int x1), (2, .int x2), (3, .int x3), (4, .int x4)]) (h : kf_EM_ask_35 M x1 x2 x3 x4 = some M') : W p l e { frames := 1, cells := 0, slots := 0, locals := 26 } s m args below meth c H locs 0 0 (MQ below (xq_v E K M') args s 0 0 (xe_A E)) (F0 m 35 ls []) := by
  have hx := C.1.1
  have hb := C.1.2.1
  unfold kf_EM_ask_35 at h
  refine lv_aload_n hx hb d_EM_ask_35 rfl (lv_at hl 0 rfl) ?_
  refine xr_mga C X hg xc_EM 24 (by decide) (by decide) (by decide) m_486 d_EM_ask_36 ?_
  refine lv_iload_n hx hb d_EM_ask_39 rfl (lv_at hl 2 rfl) ?_
  refine lv_dup2_11 hx hb d_EM_ask_40 rfl rfl ?_
  replace h := xb h
  obtain ⟨v1, hv, h⟩ := h
  refine xr_mld C X hg 24 (by decide) (by decide) rfl d_EM_ask_41 hv ?_
  refine lv_iconst hx hb d_EM_ask_42 kn_i_1 ?_
  refine lv_iadd hx hb d_EM_ask_43 ?_
  replace h := xb h
  obtain ⟨M2, hv, h⟩ := h
  refine xr_mst C X hg 24 (by decide) (by decide) rfl d_EM_ask_44 hv (fun H locs X => ?_)
  refine lv_aload_n hx hb d_EM_ask_45 rfl (lv_at hl 0 rfl) ?_
  refine xr_mga C X hg xc_EM 26 (by decide) (by decide) (by decide) m_488 d_EM_ask_46 ?_
  refine lv_iload hx hb d_EM_ask_49 (lv_at hl 4 rfl) ?_
  refine lv_aload_n hx hb d_EM_ask_51 rfl (lv_at hl 0 rfl) ?_
  refine xr_mga C X hg xc_EM 24 (by decide) (by decide) (by decide) m_486 d_EM_ask_52 ?_
  refine lv_iload_n hx hb d_EM_ask_55 rfl (lv_at hl 2 rfl) ?_
  replace h := xb h
  obtain ⟨v3, hv, h⟩ := h
  refine xr_mld C X hg 24 (by decide) (by decide) rfl d_EM_ask_56 hv ?_
  replace h := xb h
  obtain ⟨M4, hv, h⟩ := h
  refine xr_mst C X hg 26 (by decide) (by decide) rfl d_EM_ask_57 hv (fun H locs X => ?_)
  refine lv_aload_n hx hb d_EM_ask_58 rfl (lv_at hl 0 rfl) ?_
  refine xr_mga C X hg xc_EM 27 (by decide) (by decide) (by decide) m_489 d_EM_ask_59 ?_
  refine lv_iload hx hb d_EM_ask_62 (lv_at hl 4 rfl) ?_
  refine lv_iload_n hx hb d_EM_ask_64 rfl (lv_at hl 1 rfl) ?_
  replace h := xb h
  obtain ⟨M5, hv, h⟩ := h
  refine xr_mst C X hg 27 (by decide) (by decide) rfl d_EM_ask_65 hv (fun H locs X => ?_)
  refine lv_aload_n hx hb d_EM_ask_66 rfl (lv_at hl 0 rfl) ?_
  refine xr_mga C X hg xc_EM 28 (by decide) (by decide) (by decide) m_490 d_EM_ask_67 ?_
  refine lv_iload hx hb d_EM_ask_70 (lv_at hl 4 rfl) ?_
  refine lv_iload_n hx hb d_EM_ask_72 rfl (lv_at hl 3 rfl) ?_
  replace h := xb h
  obtain ⟨M6, hv, h⟩ := h
  refine xr_mst C X hg 28 (by decide) (by decide) rfl d_EM_ask_73 hv (fun H locs X => ?_)
  exact kw_EM_ask_74 (x2 := x2) (x4 := x4) C hlk hr hin hg  X (lv_sub hl [0, 2, 4] rfl) h
set_option maxHeartbeats 4000000 in
set_option maxRecDepth 100000 in
theorem kw_EM_ask_0 {x1 : Int32} {x2 : Int32} {x3 : Int32} (C : xx_C p m c b_EM_ask 6 s args Rn_EM E) (hlk : meth.locks = false) (hr : meth.sig.returnType = none) (hin : meth.name = "ask") (hg : xe_g E = true) (X : xx_S E K M s H locs) (hl : lv_has ls 6 [(0, .ref (xe_om E)), (1, .int x1), (2, .int x2), (3, .int x3)]) (h : kf_EM_ask_0 M x1 x2 x3 = some M') : W p l e { frames := 1, cells := 0, slots := 0, locals := 26 } s m args below meth c H locs 0 0 (MQ below (xq_v E K M') args s 0 0 (xe_A E)) (F0 m 0 ls []) := by
  have hx := C.1.1
  have hb := C.1.2.1
  unfold kf_EM_ask_0 at h
  refine lv_aload_n hx hb d_EM_ask_0 rfl (lv_at hl 0 rfl) ?_
  refine xr_mga C X hg xc_EM 25 (by decide) (by decide) (by decide) m_487 d_EM_ask_1 ?_
  refine lv_iload_n hx hb d_EM_ask_4 rfl (lv_at hl 2 rfl) ?_
  replace h := xb h
  obtain ⟨v1, hv, h⟩ := h
  refine xr_mld C X hg 25 (by decide) (by decide) rfl d_EM_ask_5 hv ?_
  refine lv_bipush hx hb d_EM_ask_6 kn_b_8 ?_
  refine lv_icmp_ne (tgt := 12) hx hb d_EM_ask_8 (by decide +kernel) (fun hc => ?_) (fun hc => ?_)
  · rw [if_neg hc] at h
    refine lv_bipush hx hb d_EM_ask_12 kn_b_8 ?_
    refine lv_iload_n hx hb d_EM_ask_14 rfl (lv_at hl 2 rfl) ?_
    refine lv_imul hx hb d_EM_ask_15 ?_
    refine lv_aload_n hx hb d_EM_ask_16 rfl (lv_at hl 0 rfl) ?_
    refine xr_mga C X hg xc_EM 25 (by decide) (by decide) (by decide) m_487 d_EM_ask_17 ?_
    refine lv_iload_n hx hb d_EM_ask_20 rfl (lv_at hl 2 rfl) ?_
    replace h := xb h
    obtain ⟨v2, hv, h⟩ := h
    refine xr_mld C X hg 25 (by decide) (by decide) rfl d_EM_ask_21 hv ?_
    refine lv_iadd hx hb d_EM_ask_22 ?_
    refine lv_istore hx hb d_EM_ask_23 hl (by decide) rfl (fun ls hl => ?_)
    have hl : lv_has ls 6 [(4, .int (((8 : Int32) * x2) + v2)), (0, .ref (xe_om E)), (1, .int x1), (2, .int x2), (3, .int x3)] := hl
    refine lv_aload_n hx hb d_EM_ask_25 rfl (lv_at hl 1 rfl) ?_
    refine xr_mga C X hg xc_EM 25 (by decide) (by decide) (by decide) m_487 d_EM_ask_26 ?_
    refine lv_iload_n hx hb d_EM_ask_29 rfl (lv_at hl 3 rfl) ?_
    refine lv_dup2_11 hx hb d_EM_ask_30 rfl rfl ?_
    replace h := xb h
    obtain ⟨v3, hv, h⟩ := h
    refine xr_mld C X hg 25 (by decide) (by decide) rfl d_EM_ask_31 hv ?_
    refine lv_iconst hx hb d_EM_ask_32 kn_i_1 ?_
    refine lv_iadd hx hb d_EM_ask_33 ?_
    replace h := xb h
    obtain ⟨M4, hv, h⟩ := h
    refine xr_mst C X hg 25 (by decide) (by decide) rfl d_EM_ask_34 hv (fun H locs X => ?_)
    exact kw_EM_ask_35 (x1 := x1) (x2 := x2) (x3 := x3) (x4 := (((8 : Int32) * x2) + v2)) C hlk hr hin hg  X (lv_sub hl [1, 2, 3, 4, 0] rfl) h
  · rw [if_pos hc] at h
    obtain rfl := Option.some.inj h
    exact xr_vret C X hlk hr d_EM_ask_11 (Nat.le_of_ble_eq_true rfl) (Nat.le_of_ble_eq_true rfl)
theorem kc_EM_ask (l : Launch) (E : xe) (hg : xe_g E = true) {x1 : Int32} {x2 : Int32} {x3 : Int32} (h : kf_EM_ask_0 M x1 x2 x3 = some M') : Met l y_EM_ask (Cond.code y_EM_ask b_EM_ask 6 none :: w_all) { frames := 1, cells := 0, slots := 0, locals := 26 } (va_Pc [.ref (xe_om E), .int x1, .int x2, .int x3] (fun U => xx_B E K M U)) (xq_v E K M') 0 0 (xe_A E) :=
  xr_met (by decide) (Nat.le_of_ble_eq_true rfl) fun p e s m below meth c ls C X hlk hr hin hl => kw_EM_ask_0 C hlk hr hin hg X hl h
set_option maxHeartbeats 4000000 in
set_option maxRecDepth 100000 in
theorem kw_EM_confirmed_163 {rec115 : xm → Int32 → Int32 → Option xm} {x2 : Int32} {x5 : Int32} (C : xx_C p m c b_EM_confirmed 6 s args Rn_EM E) (hlk : meth.locks = false) (hr : meth.sig.returnType = none) (hin : meth.name = "confirmed") (hg : xe_g E = true) (hrec115 : ∀ {H : Heap} {locs : List Loc} {ls : Array Slot} {M : xm} {x2 : Int32} {x5 : Int32}, xx_S E K M s H locs → lv_has ls 6 [(0, .ref (xe_om E)), (2, .int x2), (5, .int x5)] → rec115 M x2 x5 = some M' → W p l e { frames := 1, cells := 0, slots := 0, locals := 26 } s m args below meth c H locs 0 0 (MQ below (xq_v E K M') args s 0 0 (xe_A E)) (F0 m 115 ls [])) (X : xx_S E K M s H locs) (hl : lv_has ls 6 [(0, .ref (xe_om E)), (2, .int x2), (5, .int x5)]) (h : kf_EM_confirmed_163 rec115 M x2 x5 = some M') : W p l e { frames := 1, cells := 0, slots := 0, locals := 26 } s m args below meth c H locs 0 0 (MQ below (xq_v E K M') args s 0 0 (xe_A E)) (F0 m 163 ls []) := by
  have hx := C.1.1
  have hb := C.1.2.1
  unfold kf_EM_confirmed_163 at h
  refine lv_aload_n hx hb d_EM_confirmed_163 rfl (lv_at hl 0 rfl) ?_
  refine xr_mga C X hg xc_EM 28 (by decide) (by decide) (by decide) m_490 d_EM_confirmed_164 ?_
  refine lv_iload hx hb d_EM_confirmed_167 (lv_at hl 2 rfl) ?_
  refine lv_aload_n hx hb d_EM_confirmed_169 rfl (lv_at hl 0 rfl) ?_
  refine xr_mga C X hg xc_EM 28 (by decide) (by decide) (by decide) m_490 d_EM_confirmed_170 ?_
  refine lv_iload hx hb d_EM_confirmed_173 (lv_at hl 2 rfl) ?_
  refine lv_iconst hx hb d_EM_confirmed_175 kn_i_1 ?_
  refine lv_iadd hx hb d_EM_confirmed_176 ?_
  replace h := xb h
  obtain ⟨v1, hv, h⟩ := h
  refine xr_mld C X hg 28 (by decide) (by decide) rfl d_EM_confirmed_177 hv ?_
  replace h := xb h
  obtain ⟨M2, hv, h⟩ := h
  refine xr_mst C X hg 28 (by decide) (by decide) rfl d_EM_confirmed_178 hv (fun H locs X => ?_)
  refine lv_aload_n hx hb d_EM_confirmed_179 rfl (lv_at hl 0 rfl) ?_
  refine xr_mga C X hg xc_EM 29 (by decide) (by decide) (by decide) m_491 d_EM_confirmed_180 ?_
  refine lv_iload hx hb d_EM_confirmed_183 (lv_at hl 2 rfl) ?_
  refine lv_aload_n hx hb d_EM_confirmed_185 rfl (lv_at hl 0 rfl) ?_
  refine xr_mga C X hg xc_EM 29 (by decide) (by decide) (by decide) m_491 d_EM_confirmed_186 ?_
  refine lv_iload hx hb d_EM_confirmed_189 (lv_at hl 2 rfl) ?_
  refine lv_iconst hx hb d_EM_confirmed_191 kn_i_1 ?_
  refine lv_iadd hx hb d_EM_confirmed_192 ?_
  replace h := xb h
  obtain ⟨v3, hv, h⟩ := h
  refine xr_mld C X hg 29 (by decide) (by decide) rfl d_EM_confirmed_193 hv ?_
  replace h := xb h
  obtain ⟨M4, hv, h⟩ := h
  refine xr_mst C X hg 29 (by decide) (by decide) rfl d_EM_confirmed_194 hv (fun H locs X => ?_)
  refine lv_iinc (k := 2) (v := (x5 + (1 : Int32))) hx hb d_EM_confirmed_195 hl rfl (congrArg (fun y : Int32 => x5 + y) kn_i_1) (by decide) rfl (fun ls hl => ?_)
  have hl : lv_has ls 6 [(5, .int (x5 + (1 : Int32))), (0, .ref (xe_om E)), (2, .int x2)] := hl
  refine lv_goto (tgt := 115) hx hb d_EM_confirmed_198 (by decide +kernel) ?_
  exact hrec115 (x2 := x2) (x5 := (x5 + (1 : Int32))) X (lv_sub hl [1, 2, 0] rfl) h
set_option maxHeartbeats 4000000 in
set_option maxRecDepth 100000 in
theorem kwb_EM_confirmed_115 {rec115 : xm → Int32 → Int32 → Option xm} {x2 : Int32} {x5 : Int32} (C : xx_C p m c b_EM_confirmed 6 s args Rn_EM E) (hlk : meth.locks = false) (hr : meth.sig.returnType = none) (hin : meth.name = "confirmed") (hg : xe_g E = true) (hrec115 : ∀ {H : Heap} {locs : List Loc} {ls : Array Slot} {M : xm} {x2 : Int32} {x5 : Int32}, xx_S E K M s H locs → lv_has ls 6 [(0, .ref (xe_om E)), (2, .int x2), (5, .int x5)] → rec115 M x2 x5 = some M' → W p l e { frames := 1, cells := 0, slots := 0, locals := 26 } s m args below meth c H locs 0 0 (MQ below (xq_v E K M') args s 0 0 (xe_A E)) (F0 m 115 ls [])) (X : xx_S E K M s H locs) (hl : lv_has ls 6 [(0, .ref (xe_om E)), (2, .int x2), (5, .int x5)]) (h : kb_EM_confirmed_115 rec115 M x2 x5 = some M') : W p l e { frames := 1, cells := 0, slots := 0, locals := 26 } s m args below meth c H locs 0 0 (MQ below (xq_v E K M') args s 0 0 (xe_A E)) (F0 m 115 ls []) := by
  have hx := C.1.1
  have hb := C.1.2.1
  unfold kb_EM_confirmed_115 at h
  refine lv_iload hx hb d_EM_confirmed_115 (lv_at hl 2 rfl) ?_
  refine lv_bipush hx hb d_EM_confirmed_117 kn_b_8 ?_
  refine lv_iload_n hx hb d_EM_confirmed_119 rfl (lv_at hl 1 rfl) ?_
  refine lv_imul hx hb d_EM_confirmed_120 ?_
  refine lv_aload_n hx hb d_EM_confirmed_121 rfl (lv_at hl 0 rfl) ?_
  refine xr_mga C X hg xc_EM 25 (by decide) (by decide) (by decide) m_487 d_EM_confirmed_122 ?_
  refine lv_iload_n hx hb d_EM_confirmed_125 rfl (lv_at hl 1 rfl) ?_
  replace h := xb h
  obtain ⟨v1, hv, h⟩ := h
  refine xr_mld C X hg 25 (by decide) (by decide) rfl d_EM_confirmed_126 hv ?_
  refine lv_iadd hx hb d_EM_confirmed_127 ?_
  refine lv_icmp_ge (tgt := 201) hx hb d_EM_confirmed_128 (by decide +kernel) (fun hc => ?_) (fun hc => ?_)
  · rw [if_pos hc] at h
    obtain rfl := Option.some.inj h
    exact xr_vret C X hlk hr d_EM_confirmed_201 (Nat.le_of_ble_eq_true rfl) (Nat.le_of_ble_eq_true rfl)
  · rw [if_neg hc] at h
    refine lv_aload_n hx hb d_EM_confirmed_131 rfl (lv_at hl 0 rfl) ?_
    refine xr_mga C X hg xc_EM 26 (by decide) (by decide) (by decide) m_488 d_EM_confirmed_132 ?_
    refine lv_iload hx hb d_EM_confirmed_135 (lv_at hl 2 rfl) ?_
    refine lv_aload_n hx hb d_EM_confirmed_137 rfl (lv_at hl 0 rfl) ?_
    refine xr_mga C X hg xc_EM 26 (by decide) (by decide) (by decide) m_488 d_EM_confirmed_138 ?_
    refine lv_iload hx hb d_EM_confirmed_141 (lv_at hl 2 rfl) ?_
    refine lv_iconst hx hb d_EM_confirmed_143 kn_i_1 ?_
    refine lv_iadd hx hb d_EM_confirmed_144 ?_
    replace h := xb h
    obtain ⟨v2, hv, h⟩ := h
    refine xr_mld C X hg 26 (by decide) (by decide) rfl d_EM_confirmed_145 hv ?_
    replace h := xb h
    obtain ⟨M3, hv, h⟩ := h
    refine xr_mst C X hg 26 (by decide) (by decide) rfl d_EM_confirmed_146 hv (fun H locs X => ?_)
    refine lv_aload_n hx hb d_EM_confirmed_147 rfl (lv_at hl 0 rfl) ?_
    refine xr_mga C X hg xc_EM 27 (by decide) (by decide) (by decide) m_489 d_EM_confirmed_148 ?_
    refine lv_iload hx hb d_EM_confirmed_151 (lv_at hl 2 rfl) ?_
    refine lv_aload_n hx hb d_EM_confirmed_153 rfl (lv_at hl 0 rfl) ?_
    refine xr_mga C X hg xc_EM 27 (by decide) (by decide) (by decide) m_489 d_EM_confirmed_154 ?_
    refine lv_iload hx hb d_EM_confirmed_157 (lv_at hl 2 rfl) ?_
    refine lv_iconst hx hb d_EM_confirmed_159 kn_i_1 ?_
    refine lv_iadd hx hb d_EM_confirmed_160 ?_
    replace h := xb h
    obtain ⟨v4, hv, h⟩ := h
    refine xr_mld C X hg 27 (by decide) (by decide) rfl d_EM_confirmed_161 hv ?_
    replace h := xb h
    obtain ⟨M5, hv, h⟩ := h
    refine xr_mst C X hg 27 (by decide) (by decide) rfl d_EM_confirmed_162 hv (fun H locs X => ?_)
    exact kw_EM_confirmed_163 (x2 := x2) (x5 := x5) C hlk hr hin hg hrec115  X (lv_sub hl [0, 1, 2] rfl) h
theorem kw_EM_confirmed_115 (C : xx_C p m c b_EM_confirmed 6 s args Rn_EM E) (hlk : meth.locks = false) (hr : meth.sig.returnType = none) (hin : meth.name = "confirmed") (hg : xe_g E = true) : ∀ (n : Nat) {H : Heap} {locs : List Loc} {ls : Array Slot} {M : xm} {x2 : Int32} {x5 : Int32}, xx_S E K M s H locs → lv_has ls 6 [(0, .ref (xe_om E)), (2, .int x2), (5, .int x5)] → kf_EM_confirmed_115 n M x2 x5 = some M' → W p l e { frames := 1, cells := 0, slots := 0, locals := 26 } s m args below meth c H locs 0 0 (MQ below (xq_v E K M') args s 0 0 (xe_A E)) (F0 m 115 ls []) := by
  intro n
  induction n with
  | zero => intro H locs ls M x2 x5 X hl h; exact nomatch (show (none : Option xm) = some _ from h)
  | succ n ih => intro H locs ls M x2 x5 X hl h; exact kwb_EM_confirmed_115 C hlk hr hin hg ih X hl h
set_option maxHeartbeats 4000000 in
set_option maxRecDepth 100000 in
theorem kw_EM_confirmed_101 {x2 : Int32} {x4 : Int32} (C : xx_C p m c b_EM_confirmed 6 s args Rn_EM E) (hlk : meth.locks = false) (hr : meth.sig.returnType = none) (hin : meth.name = "confirmed") (hg : xe_g E = true) (X : xx_S E K M s H locs) (hl : lv_has ls 6 [(0, .ref (xe_om E)), (2, .int x2), (4, .int x4)]) (h : kf_EM_confirmed_101 M x2 x4 = some M') : W p l e { frames := 1, cells := 0, slots := 0, locals := 26 } s m args below meth c H locs 0 0 (MQ below (xq_v E K M') args s 0 0 (xe_A E)) (F0 m 101 ls []) := by
  have hx := C.1.1
  have hb := C.1.2.1
  unfold kf_EM_confirmed_101 at h
  refine lv_aload_n hx hb d_EM_confirmed_101 rfl (lv_at hl 0 rfl) ?_
  refine xr_mga C X hg xc_EM 25 (by decide) (by decide) (by decide) m_487 d_EM_confirmed_102 ?_
  refine lv_iload_n hx hb d_EM_confirmed_105 rfl (lv_at hl 1 rfl) ?_
  refine lv_dup2_11 hx hb d_EM_confirmed_106 rfl rfl ?_
  replace h := xb h
  obtain ⟨v1, hv, h⟩ := h
  refine xr_mld C X hg 25 (by decide) (by decide) rfl d_EM_confirmed_107 hv ?_
  refine lv_iconst hx hb d_EM_confirmed_108 kn_i_1 ?_
  refine lv_isub hx hb d_EM_confirmed_109 ?_
  replace h := xb h
  obtain ⟨M2, hv, h⟩ := h
  refine xr_mst C X hg 25 (by decide) (by decide) rfl d_EM_confirmed_110 hv (fun H locs X => ?_)
  refine lv_iload hx hb d_EM_confirmed_111 (lv_at hl 2 rfl) ?_
  refine lv_istore hx hb d_EM_confirmed_113 hl (by decide) rfl (fun ls hl => ?_)
  have hl : lv_has ls 6 [(5, .int x4), (0, .ref (xe_om E)), (2, .int x2), (4, .int x4)] := hl
  exact kw_EM_confirmed_115 C hlk hr hin hg 1000 X (lv_sub hl [1, 2, 0] rfl) h
set_option maxHeartbeats 4000000 in
set_option maxRecDepth 100000 in
theorem kw_EM_confirmed_51 {x2 : Int32} {x4 : Int32} (C : xx_C p m c b_EM_confirmed 6 s args Rn_EM E) (hlk : meth.locks = false) (hr : meth.sig.returnType = none) (hin : meth.name = "confirmed") (hg : xe_g E = true) (X : xx_S E K M s H locs) (hl : lv_has ls 6 [(0, .ref (xe_om E)), (2, .int x2), (4, .int x4)]) (h : kf_EM_confirmed_51 M x2 x4 = some M') : W p l e { frames := 1, cells := 0, slots := 0, locals := 26 } s m args below meth c H locs 0 0 (MQ below (xq_v E K M') args s 0 0 (xe_A E)) (F0 m 51 ls []) := by
  have hx := C.1.1
  have hb := C.1.2.1
  unfold kf_EM_confirmed_51 at h
  refine lv_aload_n hx hb d_EM_confirmed_51 rfl (lv_at hl 0 rfl) ?_
  refine xr_mga C X hg xc_EM 29 (by decide) (by decide) (by decide) m_491 d_EM_confirmed_52 ?_
  refine lv_iload hx hb d_EM_confirmed_55 (lv_at hl 2 rfl) ?_
  replace h := xb h
  obtain ⟨v1, hv, h⟩ := h
  refine xr_mld C X hg 29 (by decide) (by decide) rfl d_EM_confirmed_57 hv ?_
  refine lv_aload_n hx hb d_EM_confirmed_58 rfl (lv_at hl 0 rfl) ?_
  refine xr_mga C X hg xc_EM 18 (by decide) (by decide) (by decide) m_480 d_EM_confirmed_59 ?_
  refine lv_iload_n hx hb d_EM_confirmed_62 rfl (lv_at hl 1 rfl) ?_
  replace h := xb h
  obtain ⟨v2, hv, h⟩ := h
  refine xr_mld C X hg 18 (by decide) (by decide) rfl d_EM_confirmed_63 hv ?_
  refine lv_iand hx hb d_EM_confirmed_64 ?_
  refine lv_aload_n hx hb d_EM_confirmed_65 rfl (lv_at hl 0 rfl) ?_
  refine xr_mga C X hg xc_EM 18 (by decide) (by decide) (by decide) m_480 d_EM_confirmed_66 ?_
  refine lv_iload_n hx hb d_EM_confirmed_69 rfl (lv_at hl 1 rfl) ?_
  replace h := xb h
  obtain ⟨v3, hv, h⟩ := h
  refine xr_mld C X hg 18 (by decide) (by decide) rfl d_EM_confirmed_70 hv ?_
  refine lv_icmp_ne (tgt := 201) hx hb d_EM_confirmed_71 (by decide +kernel) (fun hc => ?_) (fun hc => ?_)
  · rw [if_neg hc] at h
    obtain rfl := Option.some.inj h
    exact xr_vret C X hlk hr d_EM_confirmed_201 (Nat.le_of_ble_eq_true rfl) (Nat.le_of_ble_eq_true rfl)
  · rw [if_pos hc] at h
    refine lv_aload_n hx hb d_EM_confirmed_74 rfl (lv_at hl 0 rfl) ?_
    refine lv_iconst hx hb d_EM_confirmed_75 kn_i_4 ?_
    refine lv_aload_n hx hb d_EM_confirmed_76 rfl (lv_at hl 0 rfl) ?_
    refine xr_mga C X hg xc_EM 27 (by decide) (by decide) (by decide) m_489 d_EM_confirmed_77 ?_
    refine lv_iload hx hb d_EM_confirmed_80 (lv_at hl 2 rfl) ?_
    replace h := xb h
    obtain ⟨v4, hv, h⟩ := h
    refine xr_mld C X hg 27 (by decide) (by decide) rfl d_EM_confirmed_82 hv ?_
    refine lv_iload_n hx hb d_EM_confirmed_83 rfl (lv_at hl 1 rfl) ?_
    refine lv_aload_n hx hb d_EM_confirmed_84 rfl (lv_at hl 0 rfl) ?_
    refine xr_mga C X hg xc_EM 22 (by decide) (by decide) (by decide) m_484 d_EM_confirmed_85 ?_
    refine lv_iload_n hx hb d_EM_confirmed_88 rfl (lv_at hl 1 rfl) ?_
    replace h := xb h
    obtain ⟨v5, hv, h⟩ := h
    refine xr_mld C X hg 22 (by decide) (by decide) rfl d_EM_confirmed_89 hv ?_
    refine lv_aload_n hx hb d_EM_confirmed_90 rfl (lv_at hl 0 rfl) ?_
    refine xr_mga C X hg xc_EM 28 (by decide) (by decide) (by decide) m_490 d_EM_confirmed_91 ?_
    refine lv_iload hx hb d_EM_confirmed_94 (lv_at hl 2 rfl) ?_
    replace h := xb h
    obtain ⟨v6, hv, h⟩ := h
    refine xr_mld C X hg 28 (by decide) (by decide) rfl d_EM_confirmed_96 hv ?_
    replace h := xpb h
    obtain ⟨r8, M7, hv, h⟩ := h
    refine xr_ki (va_runV (As := [.int (4 : Int32), .int v4, .int x2, .int v5, .int v6]) (rest := []) C.1 (kc_EM_send l E hg hv) (cwV 5 C.1.2.2.2.2 (xw_V m_528 m_529 m_530 m_521 m_531) rfl rfl rfl ky_EM_send ⟨(Nat.le_of_ble_eq_true rfl), (Nat.le_of_ble_eq_true rfl)⟩) (xr_pV C X xc_EM.1 (xk_Xw (X.1.2.2.2.2.2 hg).1)) rfl rfl hl.1 rfl (lv_room (Nat.le_of_ble_eq_true rfl)) d_EM_confirmed_97 ⟨(Nat.le_of_ble_eq_true rfl), (Nat.le_of_ble_eq_true rfl)⟩) X (fun H locs X => ?_)
    refine lv_pop hx hb d_EM_confirmed_100 rfl ?_
    exact kw_EM_confirmed_101 (x2 := x2) (x4 := x4) C hlk hr hin hg  X (lv_sub hl [0, 1, 2] rfl) h
set_option maxHeartbeats 4000000 in
set_option maxRecDepth 100000 in
theorem kw_EM_confirmed_205 {rec6 : xm → Int32 → Int32 → Int32 → Int32 → Option xm} {x1 : Int32} {x2 : Int32} {x3 : Int32} {x4 : Int32} (C : xx_C p m c b_EM_confirmed 6 s args Rn_EM E) (hlk : meth.locks = false) (hr : meth.sig.returnType = none) (hin : meth.name = "confirmed") (hg : xe_g E = true) (hrec6 : ∀ {H : Heap} {locs : List Loc} {ls : Array Slot} {M : xm} {x1 : Int32} {x2 : Int32} {x3 : Int32} {x4 : Int32}, xx_S E K M s H locs → lv_has ls 6 [(0, .ref (xe_om E)), (1, .int x1), (2, .int x2), (3, .int x3), (4, .int x4)] → rec6 M x1 x2 x3 x4 = some M' → W p l e { frames := 1, cells := 0, slots := 0, locals := 26 } s m args below meth c H locs 0 0 (MQ below (xq_v E K M') args s 0 0 (xe_A E)) (F0 m 6 ls [])) (X : xx_S E K M s H locs) (hl : lv_has ls 6 [(0, .ref (xe_om E)), (1, .int x1), (2, .int x2), (3, .int x3), (4, .int x4)]) (h : kf_EM_confirmed_205 rec6 M x1 x2 x3 x4 = some M') : W p l e { frames := 1, cells := 0, slots := 0, locals := 26 } s m args below meth c H locs 0 0 (MQ below (xq_v E K M') args s 0 0 (xe_A E)) (F0 m 205 ls []) := by
  have hx := C.1.1
  have hb := C.1.2.1
  unfold kf_EM_confirmed_205 at h
  refine lv_goto (tgt := 6) hx hb d_EM_confirmed_205 (by decide +kernel) ?_
  exact hrec6 (x1 := x1) (x2 := x2) (x3 := x3) (x4 := x4) X (lv_sub hl [0, 1, 2, 3, 4] rfl) h
set_option maxHeartbeats 4000000 in
set_option maxRecDepth 100000 in
theorem kwb_EM_confirmed_6 {rec6 : xm → Int32 → Int32 → Int32 → Int32 → Option xm} {x1 : Int32} {x2 : Int32} {x3 : Int32} {x4 : Int32} (C : xx_C p m c b_EM_confirmed 6 s args Rn_EM E) (hlk : meth.locks = false) (hr : meth.sig.returnType = none) (hin : meth.name = "confirmed") (hg : xe_g E = true) (hrec6 : ∀ {H : Heap} {locs : List Loc} {ls : Array Slot} {M : xm} {x1 : Int32} {x2 : Int32} {x3 : Int32} {x4 : Int32}, xx_S E K M s H locs → lv_has ls 6 [(0, .ref (xe_om E)), (1, .int x1), (2, .int x2), (3, .int x3), (4, .int x4)] → rec6 M x1 x2 x3 x4 = some M' → W p l e { frames := 1, cells := 0, slots := 0, locals := 26 } s m args below meth c H locs 0 0 (MQ below (xq_v E K M') args s 0 0 (xe_A E)) (F0 m 6 ls [])) (X : xx_S E K M s H locs) (hl : lv_has ls 6 [(0, .ref (xe_om E)), (1, .int x1), (2, .int x2), (3, .int x3), (4, .int x4)]) (h : kb_EM_confirmed_6 rec6 M x1 x2 x3 x4 = some M') : W p l e { frames := 1, cells := 0, slots := 0, locals := 26 } s m args below meth c H locs 0 0 (MQ below (xq_v E K M') args s 0 0 (xe_A E)) (F0 m 6 ls []) := by
  have hx := C.1.1
  have hb := C.1.2.1
  unfold kb_EM_confirmed_6 at h
  refine lv_iload hx hb d_EM_confirmed_6 (lv_at hl 4 rfl) ?_
  refine lv_bipush hx hb d_EM_confirmed_8 kn_b_8 ?_
  refine lv_iload_n hx hb d_EM_confirmed_10 rfl (lv_at hl 2 rfl) ?_
  refine lv_imul hx hb d_EM_confirmed_11 ?_
  refine lv_aload_n hx hb d_EM_confirmed_12 rfl (lv_at hl 0 rfl) ?_
  refine xr_mga C X hg xc_EM 25 (by decide) (by decide) (by decide) m_487 d_EM_confirmed_13 ?_
  refine lv_iload_n hx hb d_EM_confirmed_16 rfl (lv_at hl 2 rfl) ?_
  replace h := xb h
  obtain ⟨v1, hv, h⟩ := h
  refine xr_mld C X hg 25 (by decide) (by decide) rfl d_EM_confirmed_17 hv ?_
  refine lv_iadd hx hb d_EM_confirmed_18 ?_
  refine lv_icmp_ge (tgt := 208) hx hb d_EM_confirmed_19 (by decide +kernel) (fun hc => ?_) (fun hc => ?_)
  · rw [if_pos hc] at h
    obtain rfl := Option.some.inj h
    exact xr_vret C X hlk hr d_EM_confirmed_208 (Nat.le_of_ble_eq_true rfl) (Nat.le_of_ble_eq_true rfl)
  · rw [if_neg hc] at h
    refine lv_aload_n hx hb d_EM_confirmed_22 rfl (lv_at hl 0 rfl) ?_
    refine xr_mga C X hg xc_EM 26 (by decide) (by decide) (by decide) m_488 d_EM_confirmed_23 ?_
    refine lv_iload hx hb d_EM_confirmed_26 (lv_at hl 4 rfl) ?_
    replace h := xb h
    obtain ⟨v2, hv, h⟩ := h
    refine xr_mld C X hg 26 (by decide) (by decide) rfl d_EM_confirmed_28 hv ?_
    refine lv_iload_n hx hb d_EM_confirmed_29 rfl (lv_at hl 3 rfl) ?_
    refine lv_icmp_ne (tgt := 202) hx hb d_EM_confirmed_30 (by decide +kernel) (fun hc => ?_) (fun hc => ?_)
    · rw [if_neg hc] at h
      refine lv_iinc (k := 4) (v := (x4 + (1 : Int32))) hx hb d_EM_confirmed_202 hl rfl (congrArg (fun y : Int32 => x4 + y) kn_i_1) (by decide) rfl (fun ls hl => ?_)
      have hl : lv_has ls 6 [(4, .int (x4 + (1 : Int32))), (0, .ref (xe_om E)), (1, .int x1), (2, .int x2), (3, .int x3)] := hl
      exact kw_EM_confirmed_205 (x1 := x1) (x2 := x2) (x3 := x3) (x4 := (x4 + (1 : Int32))) C hlk hr hin hg hrec6  X (lv_sub hl [1, 2, 3, 4, 0] rfl) h
    · rw [if_pos hc] at h
      refine lv_aload_n hx hb d_EM_confirmed_33 rfl (lv_at hl 0 rfl) ?_
      refine xr_mga C X hg xc_EM 29 (by decide) (by decide) (by decide) m_491 d_EM_confirmed_34 ?_
      refine lv_iload hx hb d_EM_confirmed_37 (lv_at hl 4 rfl) ?_
      refine lv_aload_n hx hb d_EM_confirmed_39 rfl (lv_at hl 0 rfl) ?_
      refine xr_mga C X hg xc_EM 29 (by decide) (by decide) (by decide) m_491 d_EM_confirmed_40 ?_
      refine lv_iload hx hb d_EM_confirmed_43 (lv_at hl 4 rfl) ?_
      replace h := xb h
      obtain ⟨v3, hv, h⟩ := h
      refine xr_mld C X hg 29 (by decide) (by decide) rfl d_EM_confirmed_45 hv ?_
      refine lv_iconst hx hb d_EM_confirmed_46 kn_i_1 ?_
      refine lv_iload_n hx hb d_EM_confirmed_47 rfl (lv_at hl 1 rfl) ?_
      refine lv_ishl hx hb d_EM_confirmed_48 ?_
      refine lv_ior hx hb d_EM_confirmed_49 ?_
      replace h := xb h
      obtain ⟨M4, hv, h⟩ := h
      refine xr_mst C X hg 29 (by decide) (by decide) rfl d_EM_confirmed_50 hv (fun H locs X => ?_)
      exact kw_EM_confirmed_51 (x2 := x2) (x4 := x4) C hlk hr hin hg  X (lv_sub hl [0, 2, 4] rfl) h
theorem kw_EM_confirmed_6 (C : xx_C p m c b_EM_confirmed 6 s args Rn_EM E) (hlk : meth.locks = false) (hr : meth.sig.returnType = none) (hin : meth.name = "confirmed") (hg : xe_g E = true) : ∀ (n : Nat) {H : Heap} {locs : List Loc} {ls : Array Slot} {M : xm} {x1 : Int32} {x2 : Int32} {x3 : Int32} {x4 : Int32}, xx_S E K M s H locs → lv_has ls 6 [(0, .ref (xe_om E)), (1, .int x1), (2, .int x2), (3, .int x3), (4, .int x4)] → kf_EM_confirmed_6 n M x1 x2 x3 x4 = some M' → W p l e { frames := 1, cells := 0, slots := 0, locals := 26 } s m args below meth c H locs 0 0 (MQ below (xq_v E K M') args s 0 0 (xe_A E)) (F0 m 6 ls []) := by
  intro n
  induction n with
  | zero => intro H locs ls M x1 x2 x3 x4 X hl h; exact nomatch (show (none : Option xm) = some _ from h)
  | succ n ih => intro H locs ls M x1 x2 x3 x4 X hl h; exact kwb_EM_confirmed_6 C hlk hr hin hg ih X hl h
set_option maxHeartbeats 4000000 in
set_option maxRecDepth 100000 in
theorem kw_EM_confirmed_0 {x1 : Int32} {x2 : Int32} {x3 : Int32} (C : xx_C p m c b_EM_confirmed 6 s args Rn_EM E) (hlk : meth.locks = false) (hr : meth.sig.returnType = none) (hin : meth.name = "confirmed") (hg : xe_g E = true) (X : xx_S E K M s H locs) (hl : lv_has ls 6 [(0, .ref (xe_om E)), (1, .int x1), (2, .int x2), (3, .int x3)]) (h : kf_EM_confirmed_0 M x1 x2 x3 = some M') : W p l e { frames := 1, cells := 0, slots := 0, locals := 26 } s m args below meth c H locs 0 0 (MQ below (xq_v E K M') args s 0 0 (xe_A E)) (F0 m 0 ls []) := by
  have hx := C.1.1
  have hb := C.1.2.1
  unfold kf_EM_confirmed_0 at h
  refine lv_bipush hx hb d_EM_confirmed_0 kn_b_8 ?_
  refine lv_iload_n hx hb d_EM_confirmed_2 rfl (lv_at hl 2 rfl) ?_
  refine lv_imul hx hb d_EM_confirmed_3 ?_
  refine lv_istore hx hb d_EM_confirmed_4 hl (by decide) rfl (fun ls hl => ?_)
  have hl : lv_has ls 6 [(4, .int ((8 : Int32) * x2)), (0, .ref (xe_om E)), (1, .int x1), (2, .int x2), (3, .int x3)] := hl
  exact kw_EM_confirmed_6 C hlk hr hin hg 1000 X (lv_sub hl [1, 2, 3, 4, 0] rfl) h
theorem kc_EM_confirmed (l : Launch) (E : xe) (hg : xe_g E = true) {x1 : Int32} {x2 : Int32} {x3 : Int32} (h : kf_EM_confirmed_0 M x1 x2 x3 = some M') : Met l y_EM_confirmed (Cond.code y_EM_confirmed b_EM_confirmed 6 none :: w_all) { frames := 1, cells := 0, slots := 0, locals := 26 } (va_Pc [.ref (xe_om E), .int x1, .int x2, .int x3] (fun U => xx_B E K M U)) (xq_v E K M') 0 0 (xe_A E) :=
  xr_met (by decide) (Nat.le_of_ble_eq_true rfl) fun p e s m below meth c ls C X hlk hr hin hl => kw_EM_confirmed_0 C hlk hr hin hg X hl h
set_option maxHeartbeats 4000000 in
set_option maxRecDepth 100000 in
theorem kw_EM_result_0 {x1 : Int32} {x2 : Int32} {x3 : Int32} {x4 : Int32} {x5 : Int32} (C : xx_C p m c b_EM_result 7 s args Rn_EM E) (hlk : meth.locks = false) (hr : meth.sig.returnType = none) (hin : meth.name = "result") (hg : xe_g E = true) (X : xx_S E K M s H locs) (hl : lv_has ls 7 [(0, .ref (xe_om E)), (1, .int x1), (2, .int x2), (3, .int x3), (4, .int x4), (5, .int x5)]) (h : kf_EM_result_0 M x1 x2 x3 x4 x5 = some M') : W p l e { frames := 1, cells := 0, slots := 0, locals := 26 } s m args below meth c H locs 0 0 (MQ below (xq_v E K M') args s 0 0 (xe_A E)) (F0 m 0 ls []) := by
  have hx := C.1.1
  have hb := C.1.2.1
  unfold kf_EM_result_0 at h
  refine lv_aload_n hx hb d_EM_result_0 rfl (lv_at hl 0 rfl) ?_
  refine lv_bipush hx hb d_EM_result_1 kn_b_8 ?_
  refine lv_iload_n hx hb d_EM_result_3 rfl (lv_at hl 1 rfl) ?_
  refine lv_iload_n hx hb d_EM_result_4 rfl (lv_at hl 2 rfl) ?_
  refine lv_iload_n hx hb d_EM_result_5 rfl (lv_at hl 3 rfl) ?_
  refine lv_iload hx hb d_EM_result_6 (lv_at hl 4 rfl) ?_
  replace h := xpb h
  obtain ⟨r2, M1, hv, h⟩ := h
  refine xr_ki (va_runV (As := [.int (8 : Int32), .int x1, .int x2, .int x3, .int x4]) (rest := []) C.1 (kc_EM_send l E hg hv) (cwV 5 C.1.2.2.2.2 (xw_V m_528 m_529 m_530 m_521 m_531) rfl rfl rfl ky_EM_send ⟨(Nat.le_of_ble_eq_true rfl), (Nat.le_of_ble_eq_true rfl)⟩) (xr_pV C X xc_EM.1 (xk_Xw (X.1.2.2.2.2.2 hg).1)) rfl rfl hl.1 rfl (lv_room (Nat.le_of_ble_eq_true rfl)) d_EM_result_8 ⟨(Nat.le_of_ble_eq_true rfl), (Nat.le_of_ble_eq_true rfl)⟩) X (fun H locs X => ?_)
  refine lv_istore hx hb d_EM_result_11 hl (by decide) rfl (fun ls hl => ?_)
  have hl : lv_has ls 7 [(6, .int r2), (0, .ref (xe_om E)), (1, .int x1), (2, .int x2), (3, .int x3), (4, .int x4), (5, .int x5)] := hl
  refine lv_aload_n hx hb d_EM_result_13 rfl (lv_at hl 1 rfl) ?_
  refine xr_mga C X hg xc_EM 54 (by decide) (by decide) (by decide) m_515 d_EM_result_14 ?_
  refine lv_iload hx hb d_EM_result_17 (lv_at hl 0 rfl) ?_
  refine lv_iload hx hb d_EM_result_19 (lv_at hl 6 rfl) ?_
  replace h := xb h
  obtain ⟨M3, hv, h⟩ := h
  refine xr_mst C X hg 54 (by decide) (by decide) rfl d_EM_result_21 hv (fun H locs X => ?_)
  obtain rfl := Option.some.inj h
  exact xr_vret C X hlk hr d_EM_result_22 (Nat.le_of_ble_eq_true rfl) (Nat.le_of_ble_eq_true rfl)
theorem kc_EM_result (l : Launch) (E : xe) (hg : xe_g E = true) {x1 : Int32} {x2 : Int32} {x3 : Int32} {x4 : Int32} {x5 : Int32} (h : kf_EM_result_0 M x1 x2 x3 x4 x5 = some M') : Met l y_EM_result (Cond.code y_EM_result b_EM_result 7 none :: w_all) { frames := 1, cells := 0, slots := 0, locals := 26 } (va_Pc [.ref (xe_om E), .int x1, .int x2, .int x3, .int x4, .int x5] (fun U => xx_B E K M U)) (xq_v E K M') 0 0 (xe_A E) :=
  xr_met (by decide) (Nat.le_of_ble_eq_true rfl) fun p e s m below meth c ls C X hlk hr hin hl => kw_EM_result_0 C hlk hr hin hg X hl h
set_option maxHeartbeats 4000000 in
set_option maxRecDepth 100000 in
theorem kw_EM_finds_51 {rec6 : xm → Int32 → Int32 → Int32 → Int32 → Int32 → Option (Int32 × xm)} {x1 : Int32} {x2 : Int32} {x3 : Int32} {x5 : Int32} {r : Int32} (C : xx_C p m c b_EM_finds 6 s args Rn_EM E) (hlk : meth.locks = false) (hr : meth.sig.returnType = (some .boolean)) (hin : meth.name = "finds") (hg : xe_g E = true) (hrec6 : ∀ {H : Heap} {locs : List Loc} {ls : Array Slot} {M : xm} {x1 : Int32} {x2 : Int32} {x3 : Int32} {x4 : Int32} {x5 : Int32}, xx_S E K M s H locs → lv_has ls 6 [(0, .ref (xe_om E)), (1, .int x1), (2, .int x2), (3, .int x3), (4, .int x4), (5, .int x5)] → rec6 M x1 x2 x3 x4 x5 = some (r, M') → W p l e { frames := 0, cells := 0, slots := 0, locals := 0 } s m args below meth c H locs 0 0 (MQ below (xq_i E K M' r) args s 0 0 (xe_A E)) (F0 m 6 ls [])) (X : xx_S E K M s H locs) (hl : lv_has ls 6 [(0, .ref (xe_om E)), (1, .int x1), (2, .int x2), (3, .int x3), (5, .int x5)]) (h : kf_EM_finds_51 rec6 M x1 x2 x3 x5 = some (r, M')) : W p l e { frames := 0, cells := 0, slots := 0, locals := 0 } s m args below meth c H locs 0 0 (MQ below (xq_i E K M' r) args s 0 0 (xe_A E)) (F0 m 51 ls []) := by
  have hx := C.1.1
  have hb := C.1.2.1
  unfold kf_EM_finds_51 at h
  refine lv_iconst hx hb d_EM_finds_51 kn_i_1 ?_
  refine lv_goto (tgt := 56) hx hb d_EM_finds_52 (by decide +kernel) ?_
  refine lv_istore hx hb d_EM_finds_56 hl (by decide) rfl (fun ls hl => ?_)
  have hl : lv_has ls 6 [(4, .int (1 : Int32)), (0, .ref (xe_om E)), (1, .int x1), (2, .int x2), (3, .int x3), (5, .int x5)] := hl
  refine lv_iinc (k := 5) (v := (x5 + (1 : Int32))) hx hb d_EM_finds_58 hl rfl (congrArg (fun y : Int32 => x5 + y) kn_i_1) (by decide) rfl (fun ls hl => ?_)
  have hl : lv_has ls 6 [(5, .int (x5 + (1 : Int32))), (4, .int (1 : Int32)), (0, .ref (xe_om E)), (1, .int x1), (2, .int x2), (3, .int x3)] := hl
  refine lv_goto (tgt := 6) hx hb d_EM_finds_61 (by decide +kernel) ?_
  exact hrec6 (x1 := x1) (x2 := x2) (x3 := x3) (x4 := (1 : Int32)) (x5 := (x5 + (1 : Int32))) X (lv_sub hl [2, 3, 4, 5, 1, 0] rfl) h
set_option maxHeartbeats 4000000 in
set_option maxRecDepth 100000 in
theorem kw_EM_finds_114 {rec67 : xm → Int32 → Int32 → Int32 → Int32 → Option (Int32 × xm)} {x1 : Int32} {x2 : Int32} {x4 : Int32} {x5 : Int32} {r : Int32} (C : xx_C p m c b_EM_finds 6 s args Rn_EM E) (hlk : meth.locks = false) (hr : meth.sig.returnType = (some .boolean)) (hin : meth.name = "finds") (hg : xe_g E = true) (hrec67 : ∀ {H : Heap} {locs : List Loc} {ls : Array Slot} {M : xm} {x1 : Int32} {x2 : Int32} {x4 : Int32} {x5 : Int32}, xx_S E K M s H locs → lv_has ls 6 [(0, .ref (xe_om E)), (1, .int x1), (2, .int x2), (4, .int x4), (5, .int x5)] → rec67 M x1 x2 x4 x5 = some (r, M') → W p l e { frames := 0, cells := 0, slots := 0, locals := 0 } s m args below meth c H locs 0 0 (MQ below (xq_i E K M' r) args s 0 0 (xe_A E)) (F0 m 67 ls [])) (X : xx_S E K M s H locs) (hl : lv_has ls 6 [(0, .ref (xe_om E)), (1, .int x1), (2, .int x2), (4, .int x4), (5, .int x5)]) (h : kf_EM_finds_114 rec67 M x1 x2 x4 x5 = some (r, M')) : W p l e { frames := 0, cells := 0, slots := 0, locals := 0 } s m args below meth c H locs 0 0 (MQ below (xq_i E K M' r) args s 0 0 (xe_A E)) (F0 m 114 ls []) := by
  have hx := C.1.1
  have hb := C.1.2.1
  unfold kf_EM_finds_114 at h
  refine lv_iinc (k := 4) (v := (x5 + (1 : Int32))) hx hb d_EM_finds_114 hl rfl (congrArg (fun y : Int32 => x5 + y) kn_i_1) (by decide) rfl (fun ls hl => ?_)
  have hl : lv_has ls 6 [(5, .int (x5 + (1 : Int32))), (0, .ref (xe_om E)), (1, .int x1), (2, .int x2), (4, .int x4)] := hl
  refine lv_goto (tgt := 67) hx hb d_EM_finds_117 (by decide +kernel) ?_
  exact hrec67 (x1 := x1) (x2 := x2) (x4 := x4) (x5 := (x5 + (1 : Int32))) X (lv_sub hl [1, 2, 3, 4, 0] rfl) h
set_option maxHeartbeats 4000000 in
set_option maxRecDepth 100000 in
theorem kwb_EM_finds_67 {rec67 : xm → Int32 → Int32 → Int32 → Int32 → Option (Int32 × xm)} {x1 : Int32} {x2 : Int32} {x4 : Int32} {x5 : Int32} {r : Int32} (C : xx_C p m c b_EM_finds 6 s args Rn_EM E) (hlk : meth.locks = false) (hr : meth.sig.returnType = (some .boolean)) (hin : meth.name = "finds") (hg : xe_g E = true) (hrec67 : ∀ {H : Heap} {locs : List Loc} {ls : Array Slot} {M : xm} {x1 : Int32} {x2 : Int32} {x4 : Int32} {x5 : Int32}, xx_S E K M s H locs → lv_has ls 6 [(0, .ref (xe_om E)), (1, .int x1), (2, .int x2), (4, .int x4), (5, .int x5)] → rec67 M x1 x2 x4 x5 = some (r, M') → W p l e { frames := 0, cells := 0, slots := 0, locals := 0 } s m args below meth c H locs 0 0 (MQ below (xq_i E K M' r) args s 0 0 (xe_A E)) (F0 m 67 ls [])) (X : xx_S E K M s H locs) (hl : lv_has ls 6 [(0, .ref (xe_om E)), (1, .int x1), (2, .int x2), (4, .int x4), (5, .int x5)]) (h : kb_EM_finds_67 rec67 M x1 x2 x4 x5 = some (r, M')) : W p l e { frames := 0, cells := 0, slots := 0, locals := 0 } s m args below meth c H locs 0 0 (MQ below (xq_i E K M' r) args s 0 0 (xe_A E)) (F0 m 67 ls []) := by
  have hx := C.1.1
  have hb := C.1.2.1
  unfold kb_EM_finds_67 at h
  refine lv_iload hx hb d_EM_finds_67 (lv_at hl 4 rfl) ?_
  refine lv_bipush hx hb d_EM_finds_69 kn_b_8 ?_
  refine lv_icmp_ge (tgt := 120) hx hb d_EM_finds_71 (by decide +kernel) (fun hc => ?_) (fun hc => ?_)
  · rw [if_pos hc] at h
    refine lv_iload hx hb d_EM_finds_120 (lv_at hl 3 rfl) ?_
    replace h := xb h
    obtain ⟨z1, hz, h⟩ := h
    obtain ⟨rfl, rfl⟩ := Prod.mk.inj (Option.some.inj h)
    exact xr_zret C X hlk hr d_EM_finds_122 hz (Nat.le_of_ble_eq_true rfl) (Nat.le_of_ble_eq_true rfl)
  · rw [if_neg hc] at h
    refine lv_iload hx hb d_EM_finds_74 (lv_at hl 3 rfl) ?_
    refine lv_if_ne (tgt := 120) hx hb d_EM_finds_76 (by decide +kernel) (fun hc => ?_) (fun hc => ?_)
    · rw [if_neg hc] at h
      refine lv_iload hx hb d_EM_finds_120 (lv_at hl 3 rfl) ?_
      replace h := xb h
      obtain ⟨z2, hz, h⟩ := h
      obtain ⟨rfl, rfl⟩ := Prod.mk.inj (Option.some.inj h)
      exact xr_zret C X hlk hr d_EM_finds_122 hz (Nat.le_of_ble_eq_true rfl) (Nat.le_of_ble_eq_true rfl)
    · rw [if_pos hc] at h
      refine lv_iload_n hx hb d_EM_finds_79 rfl (lv_at hl 2 rfl) ?_
      refine lv_aload_n hx hb d_EM_finds_80 rfl (lv_at hl 0 rfl) ?_
      refine xr_mga C X hg xc_EM 54 (by decide) (by decide) (by decide) m_515 d_EM_finds_81 ?_
      refine lv_bipush hx hb d_EM_finds_84 kn_b_24 ?_
      replace h := xb h
      obtain ⟨v3, hv, h⟩ := h
      refine xr_mld C X hg 54 (by decide) (by decide) rfl d_EM_finds_86 hv ?_
      refine lv_iand hx hb d_EM_finds_87 ?_
      refine lv_iconst hx hb d_EM_finds_88 kn_i_1 ?_
      refine lv_iload hx hb d_EM_finds_89 (lv_at hl 4 rfl) ?_
      refine lv_ishl hx hb d_EM_finds_91 ?_
      refine lv_iand hx hb d_EM_finds_92 ?_
      refine lv_if_eq (tgt := 114) hx hb d_EM_finds_93 (by decide +kernel) (fun hc => ?_) (fun hc => ?_)
      · rw [if_pos hc] at h
        exact kw_EM_finds_114 (x1 := x1) (x2 := x2) (x4 := x4) (x5 := x5) C hlk hr hin hg hrec67  X (lv_sub hl [0, 1, 2, 3, 4] rfl) h
      · rw [if_neg hc] at h
        refine lv_aload_n hx hb d_EM_finds_96 rfl (lv_at hl 0 rfl) ?_
        refine xr_mga C X hg xc_EM 23 (by decide) (by decide) (by decide) m_485 d_EM_finds_97 ?_
        refine lv_bipush hx hb d_EM_finds_100 kn_b_8 ?_
        refine lv_iload_n hx hb d_EM_finds_102 rfl (lv_at hl 1 rfl) ?_
        refine lv_imul hx hb d_EM_finds_103 ?_
        refine lv_iload hx hb d_EM_finds_104 (lv_at hl 4 rfl) ?_
        refine lv_iadd hx hb d_EM_finds_106 ?_
        refine lv_aload_n hx hb d_EM_finds_107 rfl (lv_at hl 0 rfl) ?_
        refine xr_mga C X hg xc_EM 20 (by decide) (by decide) (by decide) m_482 d_EM_finds_108 ?_
        refine lv_iload_n hx hb d_EM_finds_111 rfl (lv_at hl 1 rfl) ?_
        replace h := xb h
        obtain ⟨v4, hv, h⟩ := h
        refine xr_mld C X hg 20 (by decide) (by decide) rfl d_EM_finds_112 hv ?_
        replace h := xb h
        obtain ⟨M5, hv, h⟩ := h
        refine xr_mst C X hg 23 (by decide) (by decide) rfl d_EM_finds_113 hv (fun H locs X => ?_)
        exact kw_EM_finds_114 (x1 := x1) (x2 := x2) (x4 := x4) (x5 := x5) C hlk hr hin hg hrec67  X (lv_sub hl [0, 1, 2, 3, 4] rfl) h
theorem kw_EM_finds_67 {r : Int32} (C : xx_C p m c b_EM_finds 6 s args Rn_EM E) (hlk : meth.locks = false) (hr : meth.sig.returnType = (some .boolean)) (hin : meth.name = "finds") (hg : xe_g E = true) : ∀ (n : Nat) {H : Heap} {locs : List Loc} {ls : Array Slot} {M : xm} {x1 : Int32} {x2 : Int32} {x4 : Int32} {x5 : Int32}, xx_S E K M s H locs → lv_has ls 6 [(0, .ref (xe_om E)), (1, .int x1), (2, .int x2), (4, .int x4), (5, .int x5)] → kf_EM_finds_67 n M x1 x2 x4 x5 = some (r, M') → W p l e { frames := 0, cells := 0, slots := 0, locals := 0 } s m args below meth c H locs 0 0 (MQ below (xq_i E K M' r) args s 0 0 (xe_A E)) (F0 m 67 ls []) := by
  intro n
  induction n with
  | zero => intro H locs ls M x1 x2 x4 x5 X hl h; exact nomatch (show (none : Option (Int32 × xm)) = some _ from h)
  | succ n ih => intro H locs ls M x1 x2 x4 x5 X hl h; exact kwb_EM_finds_67 C hlk hr hin hg ih X hl h
set_option maxHeartbeats 4000000 in
set_option maxRecDepth 100000 in
theorem kwb_EM_finds_6 {rec6 : xm → Int32 → Int32 → Int32 → Int32 → Int32 → Option (Int32 × xm)} {x1 : Int32} {x2 : Int32} {x3 : Int32} {x4 : Int32} {x5 : Int32} {r : Int32} (C : xx_C p m c b_EM_finds 6 s args Rn_EM E) (hlk : meth.locks = false) (hr : meth.sig.returnType = (some .boolean)) (hin : meth.name = "finds") (hg : xe_g E = true) (hrec6 : ∀ {H : Heap} {locs : List Loc} {ls : Array Slot} {M : xm} {x1 : Int32} {x2 : Int32} {x3 : Int32} {x4 : Int32} {x5 : Int32}, xx_S E K M s H locs → lv_has ls 6 [(0, .ref (xe_om E)), (1, .int x1), (2, .int x2), (3, .int x3), (4, .int x4), (5, .int x5)] → rec6 M x1 x2 x3 x4 x5 = some (r, M') → W p l e { frames := 0, cells := 0, slots := 0, locals := 0 } s m args below meth c H locs 0 0 (MQ below (xq_i E K M' r) args s 0 0 (xe_A E)) (F0 m 6 ls [])) (X : xx_S E K M s H locs) (hl : lv_has ls 6 [(0, .ref (xe_om E)), (1, .int x1), (2, .int x2), (3, .int x3), (4, .int x4), (5, .int x5)]) (h : kb_EM_finds_6 rec6 M x1 x2 x3 x4 x5 = some (r, M')) : W p l e { frames := 0, cells := 0, slots := 0, locals := 0 } s m args below meth c H locs 0 0 (MQ below (xq_i E K M' r) args s 0 0 (xe_A E)) (F0 m 6 ls []) := by
  have hx := C.1.1
  have hb := C.1.2.1
  unfold kb_EM_finds_6 at h
  refine lv_iload hx hb d_EM_finds_6 (lv_at hl 5 rfl) ?_
  refine lv_bipush hx hb d_EM_finds_8 kn_b_8 ?_
  refine lv_icmp_ge (tgt := 64) hx hb d_EM_finds_10 (by decide +kernel) (fun hc => ?_) (fun hc => ?_)
  · rw [if_pos hc] at h
    refine lv_iconst hx hb d_EM_finds_64 kn_i_0 ?_
    refine lv_istore hx hb d_EM_finds_65 hl (by decide) rfl (fun ls hl => ?_)
    have hl : lv_has ls 6 [(5, .int (0 : Int32)), (0, .ref (xe_om E)), (1, .int x1), (2, .int x2), (3, .int x3), (4, .int x4)] := hl
    exact kw_EM_finds_67 C hlk hr hin hg 1000 X (lv_sub hl [1, 2, 3, 5, 0] rfl) h
  · rw [if_neg hc] at h
    refine lv_iload hx hb d_EM_finds_13 (lv_at hl 4 rfl) ?_
    refine lv_if_ne (tgt := 51) hx hb d_EM_finds_15 (by decide +kernel) (fun hc => ?_) (fun hc => ?_)
    · rw [if_neg hc] at h
      exact kw_EM_finds_51 (x1 := x1) (x2 := x2) (x3 := x3) (x5 := x5) C hlk hr hin hg hrec6  X (lv_sub hl [0, 1, 2, 3, 5] rfl) h
    · rw [if_pos hc] at h
      refine lv_iload_n hx hb d_EM_finds_18 rfl (lv_at hl 2 rfl) ?_
      refine lv_aload_n hx hb d_EM_finds_19 rfl (lv_at hl 0 rfl) ?_
      refine xr_mga C X hg xc_EM 53 (by decide) (by decide) (by decide) m_514 d_EM_finds_20 ?_
      refine lv_bipush hx hb d_EM_finds_23 kn_b_24 ?_
      replace h := xb h
      obtain ⟨v1, hv, h⟩ := h
      refine xr_mld C X hg 53 (by decide) (by decide) rfl d_EM_finds_25 hv ?_
      refine lv_iand hx hb d_EM_finds_26 ?_
      refine lv_iconst hx hb d_EM_finds_27 kn_i_1 ?_
      refine lv_iload hx hb d_EM_finds_28 (lv_at hl 5 rfl) ?_
      refine lv_ishl hx hb d_EM_finds_30 ?_
      refine lv_iand hx hb d_EM_finds_31 ?_
      refine lv_if_eq (tgt := 55) hx hb d_EM_finds_32 (by decide +kernel) (fun hc => ?_) (fun hc => ?_)
      · rw [if_pos hc] at h
        refine lv_iconst hx hb d_EM_finds_55 kn_i_0 ?_
        refine lv_istore hx hb d_EM_finds_56 hl (by decide) rfl (fun ls hl => ?_)
        have hl : lv_has ls 6 [(4, .int (0 : Int32)), (0, .ref (xe_om E)), (1, .int x1), (2, .int x2), (3, .int x3), (5, .int x5)] := hl
        refine lv_iinc (k := 5) (v := (x5 + (1 : Int32))) hx hb d_EM_finds_58 hl rfl (congrArg (fun y : Int32 => x5 + y) kn_i_1) (by decide) rfl (fun ls hl => ?_)
        have hl : lv_has ls 6 [(5, .int (x5 + (1 : Int32))), (4, .int (0 : Int32)), (0, .ref (xe_om E)), (1, .int x1), (2, .int x2), (3, .int x3)] := hl
        refine lv_goto (tgt := 6) hx hb d_EM_finds_61 (by decide +kernel) ?_
        exact hrec6 (x1 := x1) (x2 := x2) (x3 := x3) (x4 := (0 : Int32)) (x5 := (x5 + (1 : Int32))) X (lv_sub hl [2, 3, 4, 5, 1, 0] rfl) h
      · rw [if_neg hc] at h
        refine lv_aload_n hx hb d_EM_finds_35 rfl (lv_at hl 0 rfl) ?_
        refine xr_mga C X hg xc_EM 23 (by decide) (by decide) (by decide) m_485 d_EM_finds_36 ?_
        refine lv_bipush hx hb d_EM_finds_39 kn_b_8 ?_
        refine lv_iload_n hx hb d_EM_finds_41 rfl (lv_at hl 1 rfl) ?_
        refine lv_imul hx hb d_EM_finds_42 ?_
        refine lv_iload hx hb d_EM_finds_43 (lv_at hl 5 rfl) ?_
        refine lv_iadd hx hb d_EM_finds_45 ?_
        replace h := xb h
        obtain ⟨v2, hv, h⟩ := h
        refine xr_mld C X hg 23 (by decide) (by decide) rfl d_EM_finds_46 hv ?_
        refine lv_iload_n hx hb d_EM_finds_47 rfl (lv_at hl 3 rfl) ?_
        refine lv_icmp_le (tgt := 55) hx hb d_EM_finds_48 (by decide +kernel) (fun hc => ?_) (fun hc => ?_)
        · rw [if_pos hc] at h
          refine lv_iconst hx hb d_EM_finds_55 kn_i_0 ?_
          refine lv_istore hx hb d_EM_finds_56 hl (by decide) rfl (fun ls hl => ?_)
          have hl : lv_has ls 6 [(4, .int (0 : Int32)), (0, .ref (xe_om E)), (1, .int x1), (2, .int x2), (3, .int x3), (5, .int x5)] := hl
          refine lv_iinc (k := 5) (v := (x5 + (1 : Int32))) hx hb d_EM_finds_58 hl rfl (congrArg (fun y : Int32 => x5 + y) kn_i_1) (by decide) rfl (fun ls hl => ?_)
          have hl : lv_has ls 6 [(5, .int (x5 + (1 : Int32))), (4, .int (0 : Int32)), (0, .ref (xe_om E)), (1, .int x1), (2, .int x2), (3, .int x3)] := hl
          refine lv_goto (tgt := 6) hx hb d_EM_finds_61 (by decide +kernel) ?_
          exact hrec6 (x1 := x1) (x2 := x2) (x3 := x3) (x4 := (0 : Int32)) (x5 := (x5 + (1 : Int32))) X (lv_sub hl [2, 3, 4, 5, 1, 0] rfl) h
        · rw [if_neg hc] at h
          exact kw_EM_finds_51 (x1 := x1) (x2 := x2) (x3 := x3) (x5 := x5) C hlk hr hin hg hrec6  X (lv_sub hl [0, 1, 2, 3, 5] rfl) h
theorem kw_EM_finds_6 {r : Int32} (C : xx_C p m c b_EM_finds 6 s args Rn_EM E) (hlk : meth.locks = false) (hr : meth.sig.returnType = (some .boolean)) (hin : meth.name = "finds") (hg : xe_g E = true) : ∀ (n : Nat) {H : Heap} {locs : List Loc} {ls : Array Slot} {M : xm} {x1 : Int32} {x2 : Int32} {x3 : Int32} {x4 : Int32} {x5 : Int32}, xx_S E K M s H locs → lv_has ls 6 [(0, .ref (xe_om E)), (1, .int x1), (2, .int x2), (3, .int x3), (4, .int x4), (5, .int x5)] → kf_EM_finds_6 n M x1 x2 x3 x4 x5 = some (r, M') → W p l e { frames := 0, cells := 0, slots := 0, locals := 0 } s m args below meth c H locs 0 0 (MQ below (xq_i E K M' r) args s 0 0 (xe_A E)) (F0 m 6 ls []) := by
  intro n
  induction n with
  | zero => intro H locs ls M x1 x2 x3 x4 x5 X hl h; exact nomatch (show (none : Option (Int32 × xm)) = some _ from h)
  | succ n ih => intro H locs ls M x1 x2 x3 x4 x5 X hl h; exact kwb_EM_finds_6 C hlk hr hin hg ih X hl h
set_option maxHeartbeats 4000000 in
set_option maxRecDepth 100000 in
theorem kw_EM_finds_0 {x1 : Int32} {x2 : Int32} {x3 : Int32} {r : Int32} (C : xx_C p m c b_EM_finds 6 s args Rn_EM E) (hlk : meth.locks = false) (hr : meth.sig.returnType = (some .boolean)) (hin : meth.name = "finds") (hg : xe_g E = true) (X : xx_S E K M s H locs) (hl : lv_has ls 6 [(0, .ref (xe_om E)), (1, .int x1), (2, .int x2), (3, .int x3)]) (h : kf_EM_finds_0 M x1 x2 x3 = some (r, M')) : W p l e { frames := 0, cells := 0, slots := 0, locals := 0 } s m args below meth c H locs 0 0 (MQ below (xq_i E K M' r) args s 0 0 (xe_A E)) (F0 m 0 ls []) := by
  have hx := C.1.1
  have hb := C.1.2.1
  unfold kf_EM_finds_0 at h
  refine lv_iconst hx hb d_EM_finds_0 kn_i_0 ?_
  refine lv_istore hx hb d_EM_finds_1 hl (by decide) rfl (fun ls hl => ?_)
  have hl : lv_has ls 6 [(4, .int (0 : Int32)), (0, .ref (xe_om E)), (1, .int x1), (2, .int x2), (3, .int x3)] := hl
  refine lv_iconst hx hb d_EM_finds_3 kn_i_0 ?_
  refine lv_istore hx hb d_EM_finds_4 hl (by decide) rfl (fun ls hl => ?_)
  have hl : lv_has ls 6 [(5, .int (0 : Int32)), (4, .int (0 : Int32)), (0, .ref (xe_om E)), (1, .int x1), (2, .int x2), (3, .int x3)] := hl
  exact kw_EM_finds_6 C hlk hr hin hg 1000 X (lv_sub hl [2, 3, 4, 5, 1, 0] rfl) h
theorem kc_EM_finds (l : Launch) (E : xe) (hg : xe_g E = true) {x1 : Int32} {x2 : Int32} {x3 : Int32} {r : Int32} (h : kf_EM_finds_0 M x1 x2 x3 = some (r, M')) : Met l y_EM_finds (Cond.code y_EM_finds b_EM_finds 6 (some .boolean) :: w_all) { frames := 0, cells := 0, slots := 0, locals := 0 } (va_Pc [.ref (xe_om E), .int x1, .int x2, .int x3] (fun U => xx_B E K M U)) (xq_i E K M' r) 0 0 (xe_A E) :=
  xr_met (by decide) (Nat.le_of_ble_eq_true rfl) fun p e s m below meth c ls C X hlk hr hin hl => kw_EM_finds_0 C hlk hr hin hg X hl h
end KW14
