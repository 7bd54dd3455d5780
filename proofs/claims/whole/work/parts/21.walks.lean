/-! EpochStore.range(III)J -/
def kb_ES_range_87 (rec87 : xk → Nat → Int32 → Int32 → Int32 → Int32 → Option (Int64 × xk)) (K : xk) (th : Nat) (x1 : Int32) (x3 : Int32) (x4 : Int32) (x5 : Int32) : Option (Int64 × xk) := if x3 < x5 then (some ((Int32.toInt64 x4), K)) else (xR K 0 3 th).bind fun v1 => (v1).bind fun a3 => (xRa K 5 a3 x1).bind fun v2 => (v2).bind fun a4 => (xO K 11 a4).bind fun _ => (kf_Client_noteUnwritten_0 K a4 x5).bind fun K5 => rec87 K5 th x1 x3 x4 (x5 + (1 : Int32))
def kf_ES_range_87 : Nat → xk → Nat → Int32 → Int32 → Int32 → Int32 → Option (Int64 × xk)
  | 0 => fun _ _ _ _ _ _ => none
  | n + 1 => kb_ES_range_87 (kf_ES_range_87 n)
def kb_ES_range_37 (rec37 : xk → Nat → Int32 → Int32 → Int32 → Int32 → Int32 → Option (Int64 × xk)) (K : xk) (th : Nat) (x1 : Int32) (x2 : Int32) (x3 : Int32) (x4 : Int32) (x5 : Int32) : Option (Int64 × xk) := if x3 < x5 then (kf_ES_range_87 1000 K th x1 x3 x4 x2) else (xR K 0 3 th).bind fun v1 => (v1).bind fun a3 => (xRa K 5 a3 x1).bind fun v2 => (v2).bind fun a4 => (xO K 0 th).bind fun _ => xp (kf_ES_valueFor_0 K th a4 x5) fun r7 K5 => xp (kf_ES_isValue_0 K5 r7) fun r9 K8 => if r9 = 0 then (some (r7, K8)) else if (lg_cmp r7 (0 : Int64)) = 0 then (rec37 K8 th x1 x2 x3 x4 (x5 + (1 : Int32))) else rec37 K8 th x1 x2 x3 (x4 + (1 : Int32)) (x5 + (1 : Int32))
def kf_ES_range_37 : Nat → xk → Nat → Int32 → Int32 → Int32 → Int32 → Int32 → Option (Int64 × xk)
  | 0 => fun _ _ _ _ _ _ _ => none
  | n + 1 => kb_ES_range_37 (kf_ES_range_37 n)
def kf_ES_range_0 (K : xk) (th : Nat) (x1 : Int32) (x2 : Int32) (x3 : Int32) : Option (Int64 × xk) := (xO K 0 th).bind fun _ => xp (kf_ES_isOpen_0 K th x1) fun r3 K1 => if r3 = 0 then (some ((-1 : Int64), K1)) else xp (kf_ES_isKey_0 K1 x2) fun r5 K4 => if r5 = 0 then (some ((-1 : Int64), K4)) else xp (kf_ES_isKey_0 K4 x3) fun r7 K6 => if r7 = 0 then (some ((-1 : Int64), K6)) else if x2 ≤ x3 then (kf_ES_range_37 1000 K6 th x1 x2 x3 (0 : Int32) x2) else some ((-1 : Int64), K6)
/-! EpochStore$Writes.put(II)V -/
def kf_Writes_put_0 (K : xk) (th : Nat) (x1 : Int32) (x2 : Int32) : Option xk := (xI K 2 0 th).bind fun v1 => (xIs K 2 0 th (v1 ||| ((1 : Int32) <<< (x1 &&& 31)))).bind fun K2 => (xR K2 2 1 th).bind fun v3 => (v3).bind fun a5 => (xIt K2 0 a5 x1 x2).bind fun K4 => some K4
/-! EpochStore.write(III)Z -/
def kf_ES_write_0 (K : xk) (th : Nat) (x1 : Int32) (x2 : Int32) (x3 : Int32) : Option (Int32 × xk) := (xO K 0 th).bind fun _ => xp (kf_ES_isOpen_0 K th x1) fun r3 K1 => if r3 = 0 then (some ((0 : Int32), K1)) else xp (kf_ES_isKey_0 K1 x2) fun r5 K4 => if r5 = 0 then (some ((0 : Int32), K4)) else (xR K4 0 3 th).bind fun v6 => (v6).bind fun a8 => (xRa K4 5 a8 x1).bind fun v7 => (v7).bind fun a9 => (xR K4 11 8 a9).bind fun v10 => (v10).bind fun a11 => (xO K4 2 a11).bind fun _ => (kf_Writes_put_0 K4 a11 x2 x3).bind fun K12 => some ((1 : Int32), K12)
/-! EpochStore$Client.finish(LEpochStore$Line;)V -/
def kf_Client_finish_51 (K : xk) (th : Nat) (x2 : Nat) : Option xk := (xI K 11 7 th).bind fun v1 => (xIs K 4 7 x2 v1).bind fun K2 => (xR K2 11 8 th).bind fun v3 => (xRs K2 4 8 x2 v3).bind fun K4 => some K4
def kf_Client_finish_0 (K : xk) (th : Nat) (x1 : Nat) : Option xk := (xR K 11 8 th).bind fun v1 => (v1).bind fun a2 => (xI K 2 0 a2).bind fun v3 => if v3 = 0 then ((xIs K 11 3 th (4 : Int32)).bind fun K15 => some K15) else (xIs K 11 3 th (3 : Int32)).bind fun K4 => (xI K4 11 0 th).bind fun v5 => (xI K4 11 1 th).bind fun v6 => (xO K4 5 x1).bind fun _ => xp (kf_Line_send_0 K4 x1 (5 : Int32) v5 v6) fun r9 K7 => (xI K7 11 2 th).bind fun v10 => (r9).bind fun a11 => (xIs K7 4 4 a11 v10).bind fun K12 => (xI K12 11 5 th).bind fun v13 => (xIs K12 4 3 a11 v13).bind fun K14 => kf_Client_finish_51 K14 th a11
/-! EpochStore.commit(I)Z -/
def kf_ES_commit_0 (K : xk) (th : Nat) (x1 : Int32) : Option (Int32 × xk) := (xO K 0 th).bind fun _ => xp (kf_ES_isOpen_0 K th x1) fun r3 K1 => if r3 = 0 then (some ((0 : Int32), K1)) else (xR K1 0 3 th).bind fun v4 => (v4).bind fun a6 => (xRa K1 5 a6 x1).bind fun v5 => (xR K1 0 5 th).bind fun v7 => (v5).bind fun a8 => (v7).bind fun a9 => (xO K1 11 a8).bind fun _ => (kf_Client_finish_0 K1 a8 a9).bind fun K10 => some ((1 : Int32), K10)
/-! EpochStore$Client.drop()V -/
def kf_Client_drop_0 (K : xk) (th : Nat) : Option xk := (xI K 11 3 th).bind fun v1 => if v1 = (3 : Int32) then ((xIs K 11 3 th (7 : Int32)).bind fun K3 => some K3) else (xIs K 11 3 th (8 : Int32)).bind fun K2 => some K2
/-! EpochStore.giveUp(I)Z -/
def kf_ES_giveUp_0 (K : xk) (th : Nat) (x1 : Int32) : Option (Int32 × xk) := xp (kf_ES_isClient_0 K x1) fun r2 K1 => if r2 = 0 then (some ((0 : Int32), K1)) else (xR K1 0 3 th).bind fun v3 => (v3).bind fun a5 => (xRa K1 5 a5 x1).bind fun v4 => (v4).bind fun a6 => (xO K1 11 a6).bind fun _ => xp (kf_Client_isBusy_0 K1 a6) fun r9 K7 => if r9 = 0 then (some ((0 : Int32), K7)) else (xR K7 0 3 th).bind fun v10 => (v10).bind fun a12 => (xRa K7 5 a12 x1).bind fun v11 => (v11).bind fun a13 => (xO K7 11 a13).bind fun _ => (kf_Client_drop_0 K7 a13).bind fun K14 => some ((1 : Int32), K14)
/-! EpochStore$Client.code()I -/
def kf_Client_code_0 (K : xk) (th : Nat) : Option (Int32 × xk) := (xI K 11 3 th).bind fun v1 => (xI K 11 5 th).bind fun v2 => (xI K 11 6 th).bind fun v3 => some (((v1 + ((16 : Int32) * v2)) + ((65536 : Int32) * v3)), K)
/-! EpochStore.status(I)I -/
def kf_ES_status_0 (K : xk) (th : Nat) (x1 : Int32) : Option (Int32 × xk) := xp (kf_ES_isClient_0 K x1) fun r2 K1 => if r2 = 0 then (some ((-1 : Int32), K1)) else (xR K1 0 3 th).bind fun v3 => (v3).bind fun a5 => (xRa K1 5 a5 x1).bind fun v4 => (v4).bind fun a6 => (xO K1 11 a6).bind fun _ => xp (kf_Client_code_0 K1 a6) fun r9 K7 => some (r9, K7)
/-! EpochStore.messages()I -/
def kf_ES_messages_0 (K : xk) (th : Nat) : Option (Int32 × xk) := (xR K 0 5 th).bind fun v1 => (v1).bind fun a2 => (xI K 5 2 a2).bind fun v3 => some (v3, K)
/-! EpochStore$Line.has(I)Z -/
def kf_Line_has_0 (K : xk) (th : Nat) (x1 : Int32) : Option (Int32 × xk) := if x1 < 0 then (some ((0 : Int32), K)) else (xI K 5 2 th).bind fun v1 => if v1 ≤ x1 then (some ((0 : Int32), K)) else some ((1 : Int32), K)
/-! EpochStore$Message.code()I -/
def kf_Message_code_0 (K : xk) (th : Nat) : Option (Int32 × xk) := (xI K 4 0 th).bind fun v1 => (xI K 4 1 th).bind fun v2 => (xI K 4 2 th).bind fun v3 => (xI K 4 3 th).bind fun v4 => some ((((v1 + ((16 : Int32) * v2)) + ((256 : Int32) * v3)) + ((65536 : Int32) * v4)), K)
/-! EpochStore.message(I)I -/
def kf_ES_message_0 (K : xk) (th : Nat) (x1 : Int32) : Option (Int32 × xk) := (xR K 0 5 th).bind fun v1 => (v1).bind fun a2 => (xO K 5 a2).bind fun _ => xp (kf_Line_has_0 K a2 x1) fun r5 K3 => if r5 = 0 then (some ((-1 : Int32), K3)) else (xR K3 0 5 th).bind fun v6 => (v6).bind fun a7 => (xR K3 5 0 a7).bind fun v8 => (v8).bind fun a10 => (xRa K3 7 a10 x1).bind fun v9 => (v9).bind fun a11 => (xO K3 4 a11).bind fun _ => xp (kf_Message_code_0 K3 a11) fun r14 K12 => some (r14, K12)
/-! EpochStore$Line.take(I)LEpochStore$Message; -/
def kf_Line_take_53 (K : xk) (x2 : Option Nat) : Option (Option Nat × xk) := some (x2, K)
def kb_Line_take_9 (rec9 : xk → Nat → Option Nat → Int32 → Option (Option Nat × xk)) (K : xk) (th : Nat) (x2 : Option Nat) (x3 : Int32) : Option (Option Nat × xk) := if (24 : Int32) ≤ x3 then ((xR K 5 0 th).bind fun v1 => (v1).bind fun a3 => (xRt K 7 4 a3 (24 : Int32) x2).bind fun K2 => (xI K2 5 2 th).bind fun v4 => (xIs K2 5 2 th (v4 - (1 : Int32))).bind fun K5 => kf_Line_take_53 K5 x2) else (xR K 5 0 th).bind fun v6 => (xR K 5 0 th).bind fun v7 => (v7).bind fun a9 => (xRa K 7 a9 (x3 + (1 : Int32))).bind fun v8 => (v6).bind fun a11 => (xRt K 7 4 a11 x3 v8).bind fun K10 => rec9 K10 th x2 (x3 + (1 : Int32))
def kf_Line_take_9 : Nat → xk → Nat → Option Nat → Int32 → Option (Option Nat × xk)
  | 0 => fun _ _ _ _ => none
  | n + 1 => kb_Line_take_9 (kf_Line_take_9 n)
def kf_Line_take_0 (K : xk) (th : Nat) (x1 : Int32) : Option (Option Nat × xk) := (xR K 5 0 th).bind fun v1 => (v1).bind fun a3 => (xRa K 7 a3 x1).bind fun v2 => kf_Line_take_9 1000 K th v2 x1
section KW5
variable {p : Program} {l : Launch} {e : Env} {s : State} {m : MethodId} {args : Array Value} {below : List Frame} {meth : Method} {c : Code} {H : Heap} {locs : List Loc} {ls : Array Slot} {E : xe} {K K' : xk} {M M' : xm}
set_option maxHeartbeats 4000000 in
set_option maxRecDepth 100000 in
theorem kwb_ES_range_87 {rec87 : xk → Nat → Int32 → Int32 → Int32 → Int32 → Option (Int64 × xk)} {th : Nat} {x1 : Int32} {x3 : Int32} {x4 : Int32} {x5 : Int32} {r : Int64} (C : xx_C p m c b_ES_range 8 s args Rn_ES E) (hlk : meth.locks = false) (hr : meth.sig.returnType = (some .long)) (hin : meth.name = "range") (hrec87 : ∀ {H : Heap} {locs : List Loc} {ls : Array Slot} {K : xk} {th : Nat} {x1 : Int32} {x3 : Int32} {x4 : Int32} {x5 : Int32}, xx_S E K M s H locs → lv_has ls 8 [(0, .ref th), (1, .int x1), (3, .int x3), (4, .int x4), (5, .int x5)] → rec87 K th x1 x3 x4 x5 = some (r, K') → W p l e { frames := 3, cells := 0, slots := 0, locals := 67 } s m args below meth c H locs 0 0 (MQ below (xq_l E K' M r) args s 0 0 (xe_A E)) (F0 m 87 ls [])) (X : xx_S E K M s H locs) (hl : lv_has ls 8 [(0, .ref th), (1, .int x1), (3, .int x3), (4, .int x4), (5, .int x5)]) (h : kb_ES_range_87 rec87 K th x1 x3 x4 x5 = some (r, K')) : W p l e { frames := 3, cells := 0, slots := 0, locals := 67 } s m args below meth c H locs 0 0 (MQ below (xq_l E K' M r) args s 0 0 (xe_A E)) (F0 m 87 ls []) := by
  have hx := C.1.1
  have hb := C.1.2.1
  unfold kb_ES_range_87 at h
  refine lv_iload hx hb d_ES_range_87 (lv_at hl 4 rfl) ?_
  refine lv_iload_n hx hb d_ES_range_89 rfl (lv_at hl 2 rfl) ?_
  refine lv_icmp_gt (tgt := 110) hx hb d_ES_range_90 (by decide +kernel) (fun hc => ?_) (fun hc => ?_)
  · rw [if_pos hc] at h
    refine lv_iload hx hb d_ES_range_110 (lv_at hl 3 rfl) ?_
    refine lv_i2l hx hb d_ES_range_112 rfl ?_
    obtain ⟨rfl, rfl⟩ := Prod.mk.inj (Option.some.inj h)
    exact xr_lret C X hlk hr d_ES_range_113 rfl (Nat.le_of_ble_eq_true rfl) (Nat.le_of_ble_eq_true rfl)
  · rw [if_neg hc] at h
    refine lv_aload_n hx hb d_ES_range_93 rfl (lv_at hl 0 rfl) ?_
    replace h := xb h
    obtain ⟨v1, hv, h⟩ := h
    refine xr_gr C X xc_ES (by decide) 3 (by decide) (by decide) rfl m_63 d_ES_range_94 hv ?_
    refine lv_iload_n hx hb d_ES_range_97 rfl (lv_at hl 1 rfl) ?_
    replace h := xb h
    obtain ⟨a3, rfl, h⟩ := h
    replace h := xb h
    obtain ⟨v2, hv, h⟩ := h
    refine xr_aald C X 5 (by decide) rfl rfl d_ES_range_98 hv ?_
    refine lv_iload hx hb d_ES_range_99 (lv_at hl 4 rfl) ?_
    replace h := xb h
    obtain ⟨a4, rfl, h⟩ := h
    replace h := xb h
    obtain ⟨_, hO6, h⟩ := h
    replace h := xb h
    obtain ⟨K5, hv, h⟩ := h
    refine xr_kv (va_runV (As := [.int x5]) (rest := []) C.1 (kc_Client_noteUnwritten l E hv) (cwV 1 C.1.2.2.2.2 (xw_V m_183 m_184 m_185 m_88 m_186) rfl rfl rfl ky_Client_noteUnwritten ⟨(Nat.le_of_ble_eq_true rfl), (Nat.le_of_ble_eq_true rfl)⟩) (xr_pV C X xc_Client.1 (xk_Xo (xOk hO6) (by decide))) rfl rfl hl.1 rfl (lv_room (Nat.le_of_ble_eq_true rfl)) d_ES_range_101 ⟨(Nat.le_of_ble_eq_true rfl), (Nat.le_of_ble_eq_true rfl)⟩) X (fun H locs X => ?_)
    refine lv_iinc (k := 4) (v := (x5 + (1 : Int32))) hx hb d_ES_range_104 hl rfl (congrArg (fun y : Int32 => x5 + y) kn_i_1) (by decide) rfl (fun ls hl => ?_)
    have hl : lv_has ls 8 [(5, .int (x5 + (1 : Int32))), (0, .ref th), (1, .int x1), (3, .int x3), (4, .int x4)] := hl
    refine lv_goto (tgt := 87) hx hb d_ES_range_107 (by decide +kernel) ?_
    exact hrec87 (th := th) (x1 := x1) (x3 := x3) (x4 := x4) (x5 := (x5 + (1 : Int32))) X (lv_sub hl [1, 2, 3, 4, 0] rfl) h
theorem kw_ES_range_87 {r : Int64} (C : xx_C p m c b_ES_range 8 s args Rn_ES E) (hlk : meth.locks = false) (hr : meth.sig.returnType = (some .long)) (hin : meth.name = "range") : ∀ (n : Nat) {H : Heap} {locs : List Loc} {ls : Array Slot} {K : xk} {th : Nat} {x1 : Int32} {x3 : Int32} {x4 : Int32} {x5 : Int32}, xx_S E K M s H locs → lv_has ls 8 [(0, .ref th), (1, .int x1), (3, .int x3), (4, .int x4), (5, .int x5)] → kf_ES_range_87 n K th x1 x3 x4 x5 = some (r, K') → W p l e { frames := 3, cells := 0, slots := 0, locals := 67 } s m args below meth c H locs 0 0 (MQ below (xq_l E K' M r) args s 0 0 (xe_A E)) (F0 m 87 ls []) := by
  intro n
  induction n with
  | zero => intro H locs ls K th x1 x3 x4 x5 X hl h; exact nomatch (show (none : Option (Int64 × xk)) = some _ from h)
  | succ n ih => intro H locs ls K th x1 x3 x4 x5 X hl h; exact kwb_ES_range_87 C hlk hr hin ih X hl h
set_option maxHeartbeats 4000000 in
set_option maxRecDepth 100000 in
theorem kwb_ES_range_37 {rec37 : xk → Nat → Int32 → Int32 → Int32 → Int32 → Int32 → Option (Int64 × xk)} {th : Nat} {x1 : Int32} {x2 : Int32} {x3 : Int32} {x4 : Int32} {x5 : Int32} {r : Int64} (C : xx_C p m c b_ES_range 8 s args Rn_ES E) (hlk : meth.locks = false) (hr : meth.sig.returnType = (some .long)) (hin : meth.name = "range") (hrec37 : ∀ {H : Heap} {locs : List Loc} {ls : Array Slot} {K : xk} {th : Nat} {x1 : Int32} {x2 : Int32} {x3 : Int32} {x4 : Int32} {x5 : Int32}, xx_S E K M s H locs → lv_has ls 8 [(0, .ref th), (1, .int x1), (2, .int x2), (3, .int x3), (4, .int x4), (5, .int x5)] → rec37 K th x1 x2 x3 x4 x5 = some (r, K') → W p l e { frames := 3, cells := 0, slots := 0, locals := 67 } s m args below meth c H locs 0 0 (MQ below (xq_l E K' M r) args s 0 0 (xe_A E)) (F0 m 37 ls [])) (X : xx_S E K M s H locs) (hl : lv_has ls 8 [(0, .ref th), (1, .int x1), (2, .int x2), (3, .int x3), (4, .int x4), (5, .int x5)]) (h : kb_ES_range_37 rec37 K th x1 x2 x3 x4 x5 = some (r, K')) : W p l e { frames := 3, cells := 0, slots := 0, locals := 67 } s m args below meth c H locs 0 0 (MQ below (xq_l E K' M r) args s 0 0 (xe_A E)) (F0 m 37 ls []) := by
  have hx := C.1.1
  have hb := C.1.2.1
  unfold kb_ES_range_37 at h
  refine lv_iload hx hb d_ES_range_37 (lv_at hl 5 rfl) ?_
  refine lv_iload_n hx hb d_ES_range_39 rfl (lv_at hl 3 rfl) ?_
  refine lv_icmp_gt (tgt := 84) hx hb d_ES_range_40 (by decide +kernel) (fun hc => ?_) (fun hc => ?_)
  · rw [if_pos hc] at h
    refine lv_iload_n hx hb d_ES_range_84 rfl (lv_at hl 2 rfl) ?_
    refine lv_istore hx hb d_ES_range_85 hl (by decide) rfl (fun ls hl => ?_)
    have hl : lv_has ls 8 [(5, .int x2), (0, .ref th), (1, .int x1), (2, .int x2), (3, .int x3), (4, .int x4)] := hl
    exact kw_ES_range_87 C hlk hr hin 1000 X (lv_sub hl [1, 2, 4, 5, 0] rfl) h
  · rw [if_neg hc] at h
    refine lv_aload_n hx hb d_ES_range_43 rfl (lv_at hl 0 rfl) ?_
    refine lv_aload_n hx hb d_ES_range_44 rfl (lv_at hl 0 rfl) ?_
    replace h := xb h
    obtain ⟨v1, hv, h⟩ := h
    refine xr_gr C X xc_ES (by decide) 3 (by decide) (by decide) rfl m_63 d_ES_range_45 hv ?_
    refine lv_iload_n hx hb d_ES_range_48 rfl (lv_at hl 1 rfl) ?_
    replace h := xb h
    obtain ⟨a3, rfl, h⟩ := h
    replace h := xb h
    obtain ⟨v2, hv, h⟩ := h
    refine xr_aald C X 5 (by decide) rfl rfl d_ES_range_49 hv ?_
    refine lv_iload hx hb d_ES_range_50 (lv_at hl 5 rfl) ?_
    replace h := xb h
    obtain ⟨a4, rfl, h⟩ := h
    replace h := xb h
    obtain ⟨_, hO6, h⟩ := h
    replace h := xpb h
    obtain ⟨r7, K5, hv, h⟩ := h
    refine xr_kl (va_runV (As := [.ref a4, .int x5]) (rest := []) C.1 (kc_ES_valueFor l E hv) (cwV 2 C.1.2.2.2.2 (xw_V m_176 m_177 m_178 m_106 m_179) rfl rfl rfl ky_ES_valueFor ⟨(Nat.le_of_ble_eq_true rfl), (Nat.le_of_ble_eq_true rfl)⟩) (xr_pV C X xc_ES.1 (xk_Xo (xOk hO6) (by decide))) rfl rfl hl.1 rfl (lv_room (Nat.le_of_ble_eq_true rfl)) d_ES_range_52 ⟨(Nat.le_of_ble_eq_true rfl), (Nat.le_of_ble_eq_true rfl)⟩) X (fun H locs X => ?_)
    refine lv_lstore hx hb d_ES_range_55 hl (by decide) rfl (fun ls hl => ?_)
    have hl : lv_has ls 8 [(6, .long r7), (0, .ref th), (1, .int x1), (2, .int x2), (3, .int x3), (4, .int x4), (5, .int x5)] := hl
    refine lv_lload hx hb d_ES_range_57 (lv_at hl 0 rfl) ?_
    replace h := xpb h
    obtain ⟨r9, K8, hv, h⟩ := h
    refine xr_ki (va_runS (As := [.long r7]) (rest := []) C.1 (kc_ES_isValue l E hv) (cwS 1 C.1.2.2.2.2 (xw_S m_180 m_181 m_106 m_182) rfl rfl rfl ky_ES_isValue ⟨(Nat.le_of_ble_eq_true rfl), (Nat.le_of_ble_eq_true rfl)⟩) (xr_pS C X) rfl rfl hl.1 rfl (lv_room (Nat.le_of_ble_eq_true rfl)) d_ES_range_59 ⟨(Nat.le_of_ble_eq_true rfl), (Nat.le_of_ble_eq_true rfl)⟩) X (fun H locs X => ?_)
    refine lv_if_ne (tgt := 68) hx hb d_ES_range_62 (by decide +kernel) (fun hc => ?_) (fun hc => ?_)
    · rw [if_neg hc] at h
      refine lv_lload hx hb d_ES_range_68 (lv_at hl 0 rfl) ?_
      refine lv_lconst hx hb d_ES_range_70 kn_l_0 ?_
      refine W.lcmp hx hb d_ES_range_71 ?_
      refine lv_if_eq (tgt := 78) hx hb d_ES_range_72 (by decide +kernel) (fun hc => ?_) (fun hc => ?_)
      · rw [if_pos hc] at h
        refine lv_iinc (k := 6) (v := (x5 + (1 : Int32))) hx hb d_ES_range_78 hl rfl (congrArg (fun y : Int32 => x5 + y) kn_i_1) (by decide) rfl (fun ls hl => ?_)
        have hl : lv_has ls 8 [(5, .int (x5 + (1 : Int32))), (6, .long r7), (0, .ref th), (1, .int x1), (2, .int x2), (3, .int x3), (4, .int x4)] := hl
        refine lv_goto (tgt := 37) hx hb d_ES_range_81 (by decide +kernel) ?_
        exact hrec37 (th := th) (x1 := x1) (x2 := x2) (x3 := x3) (x4 := x4) (x5 := (x5 + (1 : Int32))) X (lv_sub hl [2, 3, 4, 5, 6, 0] rfl) h
      · rw [if_neg hc] at h
        refine lv_iinc (k := 5) (v := (x4 + (1 : Int32))) hx hb d_ES_range_75 hl rfl (congrArg (fun y : Int32 => x4 + y) kn_i_1) (by decide) rfl (fun ls hl => ?_)
        have hl : lv_has ls 8 [(4, .int (x4 + (1 : Int32))), (6, .long r7), (0, .ref th), (1, .int x1), (2, .int x2), (3, .int x3), (5, .int x5)] := hl
        refine lv_iinc (k := 6) (v := (x5 + (1 : Int32))) hx hb d_ES_range_78 hl rfl (congrArg (fun y : Int32 => x5 + y) kn_i_1) (by decide) rfl (fun ls hl => ?_)
        have hl : lv_has ls 8 [(5, .int (x5 + (1 : Int32))), (4, .int (x4 + (1 : Int32))), (6, .long r7), (0, .ref th), (1, .int x1), (2, .int x2), (3, .int x3)] := hl
        refine lv_goto (tgt := 37) hx hb d_ES_range_81 (by decide +kernel) ?_
        exact hrec37 (th := th) (x1 := x1) (x2 := x2) (x3 := x3) (x4 := (x4 + (1 : Int32))) (x5 := (x5 + (1 : Int32))) X (lv_sub hl [3, 4, 5, 6, 1, 0] rfl) h
    · rw [if_pos hc] at h
      refine lv_lload hx hb d_ES_range_65 (lv_at hl 0 rfl) ?_
      obtain ⟨rfl, rfl⟩ := Prod.mk.inj (Option.some.inj h)
      exact xr_lret C X hlk hr d_ES_range_67 rfl (Nat.le_of_ble_eq_true rfl) (Nat.le_of_ble_eq_true rfl)
theorem kw_ES_range_37 {r : Int64} (C : xx_C p m c b_ES_range 8 s args Rn_ES E) (hlk : meth.locks = false) (hr : meth.sig.returnType = (some .long)) (hin : meth.name = "range") : ∀ (n : Nat) {H : Heap} {locs : List Loc} {ls : Array Slot} {K : xk} {th : Nat} {x1 : Int32} {x2 : Int32} {x3 : Int32} {x4 : Int32} {x5 : Int32}, xx_S E K M s H locs → lv_has ls 8 [(0, .ref th), (1, .int x1), (2, .int x2), (3, .int x3), (4, .int x4), (5, .int x5)] → kf_ES_range_37 n K th x1 x2 x3 x4 x5 = some (r, K') → W p l e { frames := 3, cells := 0, slots := 0, locals := 67 } s m args below meth c H locs 0 0 (MQ below (xq_l E K' M r) args s 0 0 (xe_A E)) (F0 m 37 ls []) := by
  intro n
  induction n with
  | zero => intro H locs ls K th x1 x2 x3 x4 x5 X hl h; exact nomatch (show (none : Option (Int64 × xk)) = some _ from h)
  | succ n ih => intro H locs ls K th x1 x2 x3 x4 x5 X hl h; exact kwb_ES_range_37 C hlk hr hin ih X hl h
set_option maxHeartbeats 4000000 in
set_option maxRecDepth 100000 in
theorem kw_ES_range_0 {th : Nat} {x1 : Int32} {x2 : Int32} {x3 : Int32} {r : Int64} (C : xx_C p m c b_ES_range 8 s args Rn_ES E) (hlk : meth.locks = false) (hr : meth.sig.returnType = (some .long)) (hin : meth.name = "range") (X : xx_S E K M s H locs) (hl : lv_has ls 8 [(0, .ref th), (1, .int x1), (2, .int x2), (3, .int x3)]) (h : kf_ES_range_0 K th x1 x2 x3 = some (r, K')) : W p l e { frames := 3, cells := 0, slots := 0, locals := 67 } s m args below meth c H locs 0 0 (MQ below (xq_l E K' M r) args s 0 0 (xe_A E)) (F0 m 0 ls []) := by
  have hx := C.1.1
  have hb := C.1.2.1
  unfold kf_ES_range_0 at h
  refine lv_aload_n hx hb d_ES_range_0 rfl (lv_at hl 0 rfl) ?_
  refine lv_iload_n hx hb d_ES_range_1 rfl (lv_at hl 1 rfl) ?_
  replace h := xb h
  obtain ⟨_, hO2, h⟩ := h
  replace h := xpb h
  obtain ⟨r3, K1, hv, h⟩ := h
  refine xr_ki (va_runV (As := [.int x1]) (rest := []) C.1 (kc_ES_isOpen l E hv) (cwV 1 C.1.2.2.2.2 (xw_V m_168 m_169 m_170 m_106 m_171) rfl rfl rfl ky_ES_isOpen ⟨(Nat.le_of_ble_eq_true rfl), (Nat.le_of_ble_eq_true rfl)⟩) (xr_pV C X xc_ES.1 (xk_Xo (xOk hO2) (by decide))) rfl rfl hl.1 rfl (lv_room (Nat.le_of_ble_eq_true rfl)) d_ES_range_2 ⟨(Nat.le_of_ble_eq_true rfl), (Nat.le_of_ble_eq_true rfl)⟩) X (fun H locs X => ?_)
  refine lv_if_eq (tgt := 27) hx hb d_ES_range_5 (by decide +kernel) (fun hc => ?_) (fun hc => ?_)
  · rw [if_pos hc] at h
    refine lv_ldc2 hx hb C.1.2.2.2.1 (C.1.2.2.2.2 _ m_172) d_ES_range_27 ?_
    obtain ⟨rfl, rfl⟩ := Prod.mk.inj (Option.some.inj h)
    exact xr_lret C X hlk hr d_ES_range_30 rfl (Nat.le_of_ble_eq_true rfl) (Nat.le_of_ble_eq_true rfl)
  · rw [if_neg hc] at h
    refine lv_iload_n hx hb d_ES_range_8 rfl (lv_at hl 2 rfl) ?_
    replace h := xpb h
    obtain ⟨r5, K4, hv, h⟩ := h
    refine xr_ki (va_runS (As := [.int x2]) (rest := []) C.1 (kc_ES_isKey l E hv) (cwS 1 C.1.2.2.2.2 (xw_S m_173 m_174 m_106 m_175) rfl rfl rfl ky_ES_isKey ⟨(Nat.le_of_ble_eq_true rfl), (Nat.le_of_ble_eq_true rfl)⟩) (xr_pS C X) rfl rfl hl.1 rfl (lv_room (Nat.le_of_ble_eq_true rfl)) d_ES_range_9 ⟨(Nat.le_of_ble_eq_true rfl), (Nat.le_of_ble_eq_true rfl)⟩) X (fun H locs X => ?_)
    refine lv_if_eq (tgt := 27) hx hb d_ES_range_12 (by decide +kernel) (fun hc => ?_) (fun hc => ?_)
    · rw [if_pos hc] at h
      refine lv_ldc2 hx hb C.1.2.2.2.1 (C.1.2.2.2.2 _ m_172) d_ES_range_27 ?_
      obtain ⟨rfl, rfl⟩ := Prod.mk.inj (Option.some.inj h)
      exact xr_lret C X hlk hr d_ES_range_30 rfl (Nat.le_of_ble_eq_true rfl) (Nat.le_of_ble_eq_true rfl)
    · rw [if_neg hc] at h
      refine lv_iload_n hx hb d_ES_range_15 rfl (lv_at hl 3 rfl) ?_
      replace h := xpb h
      obtain ⟨r7, K6, hv, h⟩ := h
      refine xr_ki (va_runS (As := [.int x3]) (rest := []) C.1 (kc_ES_isKey l E hv) (cwS 1 C.1.2.2.2.2 (xw_S m_173 m_174 m_106 m_175) rfl rfl rfl ky_ES_isKey ⟨(Nat.le_of_ble_eq_true rfl), (Nat.le_of_ble_eq_true rfl)⟩) (xr_pS C X) rfl rfl hl.1 rfl (lv_room (Nat.le_of_ble_eq_true rfl)) d_ES_range_16 ⟨(Nat.le_of_ble_eq_true rfl), (Nat.le_of_ble_eq_true rfl)⟩) X (fun H locs X => ?_)
      refine lv_if_eq (tgt := 27) hx hb d_ES_range_19 (by decide +kernel) (fun hc => ?_) (fun hc => ?_)
      · rw [if_pos hc] at h
        refine lv_ldc2 hx hb C.1.2.2.2.1 (C.1.2.2.2.2 _ m_172) d_ES_range_27 ?_
        obtain ⟨rfl, rfl⟩ := Prod.mk.inj (Option.some.inj h)
        exact xr_lret C X hlk hr d_ES_range_30 rfl (Nat.le_of_ble_eq_true rfl) (Nat.le_of_ble_eq_true rfl)
      · rw [if_neg hc] at h
        refine lv_iload_n hx hb d_ES_range_22 rfl (lv_at hl 2 rfl) ?_
        refine lv_iload_n hx hb d_ES_range_23 rfl (lv_at hl 3 rfl) ?_
        refine lv_icmp_le (tgt := 31) hx hb d_ES_range_24 (by decide +kernel) (fun hc => ?_) (fun hc => ?_)
        · rw [if_pos hc] at h
          refine lv_iconst hx hb d_ES_range_31 kn_i_0 ?_
          refine lv_istore hx hb d_ES_range_32 hl (by decide) rfl (fun ls hl => ?_)
          have hl : lv_has ls 8 [(4, .int (0 : Int32)), (0, .ref th), (1, .int x1), (2, .int x2), (3, .int x3)] := hl
          refine lv_iload_n hx hb d_ES_range_34 rfl (lv_at hl 3 rfl) ?_
          refine lv_istore hx hb d_ES_range_35 hl (by decide) rfl (fun ls hl => ?_)
          have hl : lv_has ls 8 [(5, .int x2), (4, .int (0 : Int32)), (0, .ref th), (1, .int x1), (2, .int x2), (3, .int x3)] := hl
          exact kw_ES_range_37 C hlk hr hin 1000 X (lv_sub hl [2, 3, 4, 5, 1, 0] rfl) h
        · rw [if_neg hc] at h
          refine lv_ldc2 hx hb C.1.2.2.2.1 (C.1.2.2.2.2 _ m_172) d_ES_range_27 ?_
          obtain ⟨rfl, rfl⟩ := Prod.mk.inj (Option.some.inj h)
          exact xr_lret C X hlk hr d_ES_range_30 rfl (Nat.le_of_ble_eq_true rfl) (Nat.le_of_ble_eq_true rfl)
theorem kc_ES_range (l : Launch) (E : xe) {th : Nat} {x1 : Int32} {x2 : Int32} {x3 : Int32} {r : Int64} (h : kf_ES_range_0 K th x1 x2 x3 = some (r, K')) : Met l y_ES_range (Cond.code y_ES_range b_ES_range 8 (some .long) :: w_all) { frames := 3, cells := 0, slots := 0, locals := 67 } (va_Pc [.ref th, .int x1, .int x2, .int x3] (fun U => xx_B E K M U)) (xq_l E K' M r) 0 0 (xe_A E) :=
  xr_met (by decide) (Nat.le_of_ble_eq_true rfl) fun p e s m below meth c ls C X hlk hr hin hl => kw_ES_range_0 C hlk hr hin X hl h
set_option maxHeartbeats 4000000 in
set_option maxRecDepth 100000 in
theorem kw_Writes_put_0 {th : Nat} {x1 : Int32} {x2 : Int32} (C : xx_C p m c b_Writes_put 3 s args Rn_Writes E) (hlk : meth.locks = false) (hr : meth.sig.returnType = none) (hin : meth.name = "put") (X : xx_S E K M s H locs) (hl : lv_has ls 3 [(0, .ref th), (1, .int x1), (2, .int x2)]) (h : kf_Writes_put_0 K th x1 x2 = some K') : W p l e { frames := 0, cells := 0, slots := 0, locals := 0 } s m args below meth c H locs 0 0 (MQ below (xq_v E K' M) args s 0 0 (xe_A E)) (F0 m 0 ls []) := by
  have hx := C.1.1
  have hb := C.1.2.1
  unfold kf_Writes_put_0 at h
  refine lv_aload_n hx hb d_Writes_put_0 rfl (lv_at hl 0 rfl) ?_
  refine lv_dup hx hb d_Writes_put_1 rfl ?_
  replace h := xb h
  obtain ⟨v1, hv, h⟩ := h
  refine xr_gi C X xc_Writes (by decide) 0 (by decide) (by decide) rfl m_145 d_Writes_put_2 hv ?_
  refine lv_iconst hx hb d_Writes_put_5 kn_i_1 ?_
  refine lv_iload_n hx hb d_Writes_put_6 rfl (lv_at hl 1 rfl) ?_
  refine lv_ishl hx hb d_Writes_put_7 ?_
  refine lv_ior hx hb d_Writes_put_8 ?_
  replace h := xb h
  obtain ⟨K2, hv, h⟩ := h
  refine xr_pi C X xc_Writes (by decide) 0 (by decide) (by decide) rfl rfl rfl m_145 d_Writes_put_9 hv (fun H locs X => ?_)
  refine lv_aload_n hx hb d_Writes_put_12 rfl (lv_at hl 0 rfl) ?_
  replace h := xb h
  obtain ⟨v3, hv, h⟩ := h
  refine xr_gr C X xc_Writes (by decide) 1 (by decide) (by decide) rfl m_31 d_Writes_put_13 hv ?_
  refine lv_iload_n hx hb d_Writes_put_16 rfl (lv_at hl 1 rfl) ?_
  refine lv_iload_n hx hb d_Writes_put_17 rfl (lv_at hl 2 rfl) ?_
  replace h := xb h
  obtain ⟨a5, rfl, h⟩ := h
  replace h := xb h
  obtain ⟨K4, hv, h⟩ := h
  refine xr_iast C X 0 (by decide) rfl rfl d_Writes_put_18 hv (fun H locs X => ?_)
  obtain rfl := Option.some.inj h
  exact xr_vret C X hlk hr d_Writes_put_19 (Nat.le_of_ble_eq_true rfl) (Nat.le_of_ble_eq_true rfl)
theorem kc_Writes_put (l : Launch) (E : xe) {th : Nat} {x1 : Int32} {x2 : Int32} (h : kf_Writes_put_0 K th x1 x2 = some K') : Met l y_Writes_put (Cond.code y_Writes_put b_Writes_put 3 none :: w_all) { frames := 0, cells := 0, slots := 0, locals := 0 } (va_Pc [.ref th, .int x1, .int x2] (fun U => xx_B E K M U)) (xq_v E K' M) 0 0 (xe_A E) :=
  xr_met (by decide) (Nat.le_of_ble_eq_true rfl) fun p e s m below meth c ls C X hlk hr hin hl => kw_Writes_put_0 C hlk hr hin X hl h
set_option maxHeartbeats 4000000 in
set_option maxRecDepth 100000 in
theorem kw_ES_write_0 {th : Nat} {x1 : Int32} {x2 : Int32} {x3 : Int32} {r : Int32} (C : xx_C p m c b_ES_write 4 s args Rn_ES E) (hlk : meth.locks = false) (hr : meth.sig.returnType = (some .boolean)) (hin : meth.name = "write") (X : xx_S E K M s H locs) (hl : lv_has ls 4 [(0, .ref th), (1, .int x1), (2, .int x2), (3, .int x3)]) (h : kf_ES_write_0 K th x1 x2 x3 = some (r, K')) : W p l e { frames := 2, cells := 0, slots := 0, locals := 41 } s m args below meth c H locs 0 0 (MQ below (xq_i E K' M r) args s 0 0 (xe_A E)) (F0 m 0 ls []) := by
  have hx := C.1.1
  have hb := C.1.2.1
  unfold kf_ES_write_0 at h
  refine lv_aload_n hx hb d_ES_write_0 rfl (lv_at hl 0 rfl) ?_
  refine lv_iload_n hx hb d_ES_write_1 rfl (lv_at hl 1 rfl) ?_
  replace h := xb h
  obtain ⟨_, hO2, h⟩ := h
  replace h := xpb h
  obtain ⟨r3, K1, hv, h⟩ := h
  refine xr_ki (va_runV (As := [.int x1]) (rest := []) C.1 (kc_ES_isOpen l E hv) (cwV 1 C.1.2.2.2.2 (xw_V m_168 m_169 m_170 m_106 m_171) rfl rfl rfl ky_ES_isOpen ⟨(Nat.le_of_ble_eq_true rfl), (Nat.le_of_ble_eq_true rfl)⟩) (xr_pV C X xc_ES.1 (xk_Xo (xOk hO2) (by decide))) rfl rfl hl.1 rfl (lv_room (Nat.le_of_ble_eq_true rfl)) d_ES_write_2 ⟨(Nat.le_of_ble_eq_true rfl), (Nat.le_of_ble_eq_true rfl)⟩) X (fun H locs X => ?_)
  refine lv_if_eq (tgt := 15) hx hb d_ES_write_5 (by decide +kernel) (fun hc => ?_) (fun hc => ?_)
  · rw [if_pos hc] at h
    refine lv_iconst hx hb d_ES_write_15 kn_i_0 ?_
    obtain ⟨rfl, rfl⟩ := Prod.mk.inj (Option.some.inj h)
    exact xr_zret C X hlk hr d_ES_write_16 rfl (Nat.le_of_ble_eq_true rfl) (Nat.le_of_ble_eq_true rfl)
  · rw [if_neg hc] at h
    refine lv_iload_n hx hb d_ES_write_8 rfl (lv_at hl 2 rfl) ?_
    replace h := xpb h
    obtain ⟨r5, K4, hv, h⟩ := h
    refine xr_ki (va_runS (As := [.int x2]) (rest := []) C.1 (kc_ES_isKey l E hv) (cwS 1 C.1.2.2.2.2 (xw_S m_173 m_174 m_106 m_175) rfl rfl rfl ky_ES_isKey ⟨(Nat.le_of_ble_eq_true rfl), (Nat.le_of_ble_eq_true rfl)⟩) (xr_pS C X) rfl rfl hl.1 rfl (lv_room (Nat.le_of_ble_eq_true rfl)) d_ES_write_9 ⟨(Nat.le_of_ble_eq_true rfl), (Nat.le_of_ble_eq_true rfl)⟩) X (fun H locs X => ?_)
    refine lv_if_ne (tgt := 17) hx hb d_ES_write_12 (by decide +kernel) (fun hc => ?_) (fun hc => ?_)
    · rw [if_neg hc] at h
      refine lv_aload_n hx hb d_ES_write_17 rfl (lv_at hl 0 rfl) ?_
      replace h := xb h
      obtain ⟨v6, hv, h⟩ := h
      refine xr_gr C X xc_ES (by decide) 3 (by decide) (by decide) rfl m_63 d_ES_write_18 hv ?_
      refine lv_iload_n hx hb d_ES_write_21 rfl (lv_at hl 1 rfl) ?_
      replace h := xb h
      obtain ⟨a8, rfl, h⟩ := h
      replace h := xb h
      obtain ⟨v7, hv, h⟩ := h
      refine xr_aald C X 5 (by decide) rfl rfl d_ES_write_22 hv ?_
      replace h := xb h
      obtain ⟨a9, rfl, h⟩ := h
      replace h := xb h
      obtain ⟨v10, hv, h⟩ := h
      refine xr_gr C X xc_Client (by decide) 8 (by decide) (by decide) rfl m_157 d_ES_write_23 hv ?_
      refine lv_iload_n hx hb d_ES_write_26 rfl (lv_at hl 2 rfl) ?_
      refine lv_iload_n hx hb d_ES_write_27 rfl (lv_at hl 3 rfl) ?_
      replace h := xb h
      obtain ⟨a11, rfl, h⟩ := h
      replace h := xb h
      obtain ⟨_, hO13, h⟩ := h
      replace h := xb h
      obtain ⟨K12, hv, h⟩ := h
      refine xr_kv (va_runV (As := [.int x2, .int x3]) (rest := []) C.1 (kc_Writes_put l E hv) (cwV 2 C.1.2.2.2.2 (xw_V m_187 m_188 m_189 m_38 m_190) rfl rfl rfl ky_Writes_put ⟨(Nat.le_of_ble_eq_true rfl), (Nat.le_of_ble_eq_true rfl)⟩) (xr_pV C X xc_Writes.1 (xk_Xo (xOk hO13) (by decide))) rfl rfl hl.1 rfl (lv_room (Nat.le_of_ble_eq_true rfl)) d_ES_write_28 ⟨(Nat.le_of_ble_eq_true rfl), (Nat.le_of_ble_eq_true rfl)⟩) X (fun H locs X => ?_)
      refine lv_iconst hx hb d_ES_write_31 kn_i_1 ?_
      obtain ⟨rfl, rfl⟩ := Prod.mk.inj (Option.some.inj h)
      exact xr_zret C X hlk hr d_ES_write_32 rfl (Nat.le_of_ble_eq_true rfl) (Nat.le_of_ble_eq_true rfl)
    · rw [if_pos hc] at h
      refine lv_iconst hx hb d_ES_write_15 kn_i_0 ?_
      obtain ⟨rfl, rfl⟩ := Prod.mk.inj (Option.some.inj h)
      exact xr_zret C X hlk hr d_ES_write_16 rfl (Nat.le_of_ble_eq_true rfl) (Nat.le_of_ble_eq_true rfl)
theorem kc_ES_write (l : Launch) (E : xe) {th : Nat} {x1 : Int32} {x2 : Int32} {x3 : Int32} {r : Int32} (h : kf_ES_write_0 K th x1 x2 x3 = some (r, K')) : Met l y_ES_write (Cond.code y_ES_write b_ES_write 4 (some .boolean) :: w_all) { frames := 2, cells := 0, slots := 0, locals := 41 } (va_Pc [.ref th, .int x1, .int x2, .int x3] (fun U => xx_B E K M U)) (xq_i E K' M r) 0 0 (xe_A E) :=
  xr_met (by decide) (Nat.le_of_ble_eq_true rfl) fun p e s m below meth c ls C X hlk hr hin hl => kw_ES_write_0 C hlk hr hin X hl h
set_option maxHeartbeats 4000000 in
set_option maxRecDepth 100000 in
theorem kw_Client_finish_51 {th : Nat} {x2 : Nat} (C : xx_C p m c b_Client_finish 3 s args Rn_Client E) (hlk : meth.locks = false) (hr : meth.sig.returnType = none) (hin : meth.name = "finish") (X : xx_S E K M s H locs) (hl : lv_has ls 3 [(0, .ref th), (2, .ref x2)]) (h : kf_Client_finish_51 K th x2 = some K') : W p l e { frames := 2, cells := 0, slots := 0, locals := 47 } s m args below meth c H locs 0 0 (MQ below (xq_v E K' M) args s 0 0 (xe_A E)) (F0 m 51 ls []) := by
  have hx := C.1.1
  have hb := C.1.2.1
  unfold kf_Client_finish_51 at h
  refine lv_aload_n hx hb d_Client_finish_51 rfl (lv_at hl 1 rfl) ?_
  refine lv_aload_n hx hb d_Client_finish_52 rfl (lv_at hl 0 rfl) ?_
  replace h := xb h
  obtain ⟨v1, hv, h⟩ := h
  refine xr_gi C X xc_Client (by decide) 7 (by decide) (by decide) rfl m_130 d_Client_finish_53 hv ?_
  replace h := xb h
  obtain ⟨K2, hv, h⟩ := h
  refine xr_pi C X xc_Message (by decide) 7 (by decide) (by decide) rfl rfl rfl m_193 d_Client_finish_56 hv (fun H locs X => ?_)
  refine lv_aload_n hx hb d_Client_finish_59 rfl (lv_at hl 1 rfl) ?_
  refine lv_aload_n hx hb d_Client_finish_60 rfl (lv_at hl 0 rfl) ?_
  replace h := xb h
  obtain ⟨v3, hv, h⟩ := h
  refine xr_gr C X xc_Client (by decide) 8 (by decide) (by decide) rfl m_41 d_Client_finish_61 hv ?_
  replace h := xb h
  obtain ⟨K4, hv, h⟩ := h
  refine xr_pr (v := v3) C X xc_Message (by decide) 8 (by decide) (by decide) rfl (Or.inl ⟨_, rfl⟩) rfl m_194 d_Client_finish_64 hv (fun H locs X => ?_)
  obtain rfl := Option.some.inj h
  exact xr_vret C X hlk hr d_Client_finish_67 (Nat.le_of_ble_eq_true rfl) (Nat.le_of_ble_eq_true rfl)
set_option maxHeartbeats 4000000 in
set_option maxRecDepth 100000 in
theorem kw_Client_finish_0 {th : Nat} {x1 : Nat} (C : xx_C p m c b_Client_finish 3 s args Rn_Client E) (hlk : meth.locks = false) (hr : meth.sig.returnType = none) (hin : meth.name = "finish") (X : xx_S E K M s H locs) (hl : lv_has ls 3 [(0, .ref th), (1, .ref x1)]) (h : kf_Client_finish_0 K th x1 = some K') : W p l e { frames := 2, cells := 0, slots := 0, locals := 47 } s m args below meth c H locs 0 0 (MQ below (xq_v E K' M) args s 0 0 (xe_A E)) (F0 m 0 ls []) := by
  have hx := C.1.1
  have hb := C.1.2.1
  unfold kf_Client_finish_0 at h
  refine lv_aload_n hx hb d_Client_finish_0 rfl (lv_at hl 0 rfl) ?_
  replace h := xb h
  obtain ⟨v1, hv, h⟩ := h
  refine xr_gr C X xc_Client (by decide) 8 (by decide) (by decide) rfl m_41 d_Client_finish_1 hv ?_
  replace h := xb h
  obtain ⟨a2, rfl, h⟩ := h
  replace h := xb h
  obtain ⟨v3, hv, h⟩ := h
  refine xr_gi C X xc_Writes (by decide) 0 (by decide) (by decide) rfl m_191 d_Client_finish_4 hv ?_
  refine lv_if_ne (tgt := 16) hx hb d_Client_finish_7 (by decide +kernel) (fun hc => ?_) (fun hc => ?_)
  · rw [if_neg hc] at h
    refine lv_aload_n hx hb d_Client_finish_16 rfl (lv_at hl 0 rfl) ?_
    refine lv_iconst hx hb d_Client_finish_17 kn_i_3 ?_
    replace h := xb h
    obtain ⟨K4, hv, h⟩ := h
    refine xr_pi C X xc_Client (by decide) 3 (by decide) (by decide) rfl rfl rfl m_34 d_Client_finish_18 hv (fun H locs X => ?_)
    refine lv_aload_n hx hb d_Client_finish_21 rfl (lv_at hl 1 rfl) ?_
    refine lv_iconst hx hb d_Client_finish_22 kn_i_5 ?_
    refine lv_aload_n hx hb d_Client_finish_23 rfl (lv_at hl 0 rfl) ?_
    replace h := xb h
    obtain ⟨v5, hv, h⟩ := h
    refine xr_gi C X xc_Client (by decide) 0 (by decide) (by decide) rfl m_42 d_Client_finish_24 hv ?_
    refine lv_aload_n hx hb d_Client_finish_27 rfl (lv_at hl 0 rfl) ?_
    replace h := xb h
    obtain ⟨v6, hv, h⟩ := h
    refine xr_gi C X xc_Client (by decide) 1 (by decide) (by decide) rfl m_33 d_Client_finish_28 hv ?_
    replace h := xb h
    obtain ⟨_, hO8, h⟩ := h
    replace h := xpb h
    obtain ⟨r9, K7, hv, h⟩ := h
    refine xr_kr (va_runV (As := [.int (5 : Int32), .int v5, .int v6]) (rest := []) C.1 (kc_Line_send l E hv) (cwV 3 C.1.2.2.2.2 (xw_V m_131 m_132 m_133 m_68 m_134) rfl rfl rfl ky_Line_send ⟨(Nat.le_of_ble_eq_true rfl), (Nat.le_of_ble_eq_true rfl)⟩) (xr_pV C X xc_Line.1 (xk_Xo (xOk hO8) (by decide))) rfl rfl hl.1 rfl (lv_room (Nat.le_of_ble_eq_true rfl)) d_Client_finish_31 ⟨(Nat.le_of_ble_eq_true rfl), (Nat.le_of_ble_eq_true rfl)⟩) X (fun H locs X => ?_)
    refine xr_astore_n hx hb d_Client_finish_34 rfl hl (by decide) rfl (fun ls hl => ?_)
    have hl : lv_has ls 3 [(2, va_rf r9), (0, .ref th), (1, .ref x1)] := hl
    refine xr_aload_n hx hb d_Client_finish_35 rfl (lv_at hl 0 rfl) ?_
    refine lv_aload_n hx hb d_Client_finish_36 rfl (lv_at hl 1 rfl) ?_
    replace h := xb h
    obtain ⟨v10, hv, h⟩ := h
    refine xr_gi C X xc_Client (by decide) 2 (by decide) (by decide) rfl m_127 d_Client_finish_37 hv ?_
    replace h := xb h
    obtain ⟨a11, rfl, h⟩ := h
    replace h := xb h
    obtain ⟨K12, hv, h⟩ := h
    refine xr_pi C X xc_Message (by decide) 4 (by decide) (by decide) rfl rfl rfl m_135 d_Client_finish_40 hv (fun H locs X => ?_)
    refine lv_aload_n hx hb d_Client_finish_43 rfl (lv_at hl 0 rfl) ?_
    refine lv_aload_n hx hb d_Client_finish_44 rfl (lv_at hl 1 rfl) ?_
    replace h := xb h
    obtain ⟨v13, hv, h⟩ := h
    refine xr_gi C X xc_Client (by decide) 5 (by decide) (by decide) rfl m_128 d_Client_finish_45 hv ?_
    replace h := xb h
    obtain ⟨K14, hv, h⟩ := h
    refine xr_pi C X xc_Message (by decide) 3 (by decide) (by decide) rfl rfl rfl m_192 d_Client_finish_48 hv (fun H locs X => ?_)
    exact kw_Client_finish_51 (th := th) (x2 := a11) C hlk hr hin  X (lv_sub hl [1, 0] rfl) h
  · rw [if_pos hc] at h
    refine lv_aload_n hx hb d_Client_finish_10 rfl (lv_at hl 0 rfl) ?_
    refine lv_iconst hx hb d_Client_finish_11 kn_i_4 ?_
    replace h := xb h
    obtain ⟨K15, hv, h⟩ := h
    refine xr_pi C X xc_Client (by decide) 3 (by decide) (by decide) rfl rfl rfl m_34 d_Client_finish_12 hv (fun H locs X => ?_)
    obtain rfl := Option.some.inj h
    exact xr_vret C X hlk hr d_Client_finish_15 (Nat.le_of_ble_eq_true rfl) (Nat.le_of_ble_eq_true rfl)
theorem kc_Client_finish (l : Launch) (E : xe) {th : Nat} {x1 : Nat} (h : kf_Client_finish_0 K th x1 = some K') : Met l y_Client_finish (Cond.code y_Client_finish b_Client_finish 3 none :: w_all) { frames := 2, cells := 0, slots := 0, locals := 47 } (va_Pc [.ref th, .ref x1] (fun U => xx_B E K M U)) (xq_v E K' M) 0 0 (xe_A E) :=
  xr_met (by decide) (Nat.le_of_ble_eq_true rfl) fun p e s m below meth c ls C X hlk hr hin hl => kw_Client_finish_0 C hlk hr hin X hl h
set_option maxHeartbeats 4000000 in
set_option maxRecDepth 100000 in
theorem kw_ES_commit_0 {th : Nat} {x1 : Int32} {r : Int32} (C : xx_C p m c b_ES_commit 2 s args Rn_ES E) (hlk : meth.locks = false) (hr : meth.sig.returnType = (some .boolean)) (hin : meth.name = "commit") (X : xx_S E K M s H locs) (hl : lv_has ls 2 [(0, .ref th), (1, .int x1)]) (h : kf_ES_commit_0 K th x1 = some (r, K')) : W p l e { frames := 3, cells := 0, slots := 0, locals := 69 } s m args below meth c H locs 0 0 (MQ below (xq_i E K' M r) args s 0 0 (xe_A E)) (F0 m 0 ls []) := by
  have hx := C.1.1
  have hb := C.1.2.1
  unfold kf_ES_commit_0 at h
  refine lv_aload_n hx hb d_ES_commit_0 rfl (lv_at hl 0 rfl) ?_
  refine lv_iload_n hx hb d_ES_commit_1 rfl (lv_at hl 1 rfl) ?_
  replace h := xb h
  obtain ⟨_, hO2, h⟩ := h
  replace h := xpb h
  obtain ⟨r3, K1, hv, h⟩ := h
  refine xr_ki (va_runV (As := [.int x1]) (rest := []) C.1 (kc_ES_isOpen l E hv) (cwV 1 C.1.2.2.2.2 (xw_V m_168 m_169 m_170 m_106 m_171) rfl rfl rfl ky_ES_isOpen ⟨(Nat.le_of_ble_eq_true rfl), (Nat.le_of_ble_eq_true rfl)⟩) (xr_pV C X xc_ES.1 (xk_Xo (xOk hO2) (by decide))) rfl rfl hl.1 rfl (lv_room (Nat.le_of_ble_eq_true rfl)) d_ES_commit_2 ⟨(Nat.le_of_ble_eq_true rfl), (Nat.le_of_ble_eq_true rfl)⟩) X (fun H locs X => ?_)
  refine lv_if_ne (tgt := 10) hx hb d_ES_commit_5 (by decide +kernel) (fun hc => ?_) (fun hc => ?_)
  · rw [if_neg hc] at h
    refine lv_aload_n hx hb d_ES_commit_10 rfl (lv_at hl 0 rfl) ?_
    replace h := xb h
    obtain ⟨v4, hv, h⟩ := h
    refine xr_gr C X xc_ES (by decide) 3 (by decide) (by decide) rfl m_63 d_ES_commit_11 hv ?_
    refine lv_iload_n hx hb d_ES_commit_14 rfl (lv_at hl 1 rfl) ?_
    replace h := xb h
    obtain ⟨a6, rfl, h⟩ := h
    replace h := xb h
    obtain ⟨v5, hv, h⟩ := h
    refine xr_aald C X 5 (by decide) rfl rfl d_ES_commit_15 hv ?_
    refine lv_aload_n hx hb d_ES_commit_16 rfl (lv_at hl 0 rfl) ?_
    replace h := xb h
    obtain ⟨v7, hv, h⟩ := h
    refine xr_gr C X xc_ES (by decide) 5 (by decide) (by decide) rfl m_72 d_ES_commit_17 hv ?_
    replace h := xb h
    obtain ⟨a8, rfl, h⟩ := h
    replace h := xb h
    obtain ⟨a9, rfl, h⟩ := h
    replace h := xb h
    obtain ⟨_, hO11, h⟩ := h
    replace h := xb h
    obtain ⟨K10, hv, h⟩ := h
    refine xr_kv (va_runV (As := [.ref a9]) (rest := []) C.1 (kc_Client_finish l E hv) (cwV 1 C.1.2.2.2.2 (xw_V m_195 m_196 m_197 m_88 m_198) rfl rfl rfl ky_Client_finish ⟨(Nat.le_of_ble_eq_true rfl), (Nat.le_of_ble_eq_true rfl)⟩) (xr_pV C X xc_Client.1 (xk_Xo (xOk hO11) (by decide))) rfl rfl hl.1 rfl (lv_room (Nat.le_of_ble_eq_true rfl)) d_ES_commit_20 ⟨(Nat.le_of_ble_eq_true rfl), (Nat.le_of_ble_eq_true rfl)⟩) X (fun H locs X => ?_)
    refine lv_iconst hx hb d_ES_commit_23 kn_i_1 ?_
    obtain ⟨rfl, rfl⟩ := Prod.mk.inj (Option.some.inj h)
    exact xr_zret C X hlk hr d_ES_commit_24 rfl (Nat.le_of_ble_eq_true rfl) (Nat.le_of_ble_eq_true rfl)
  · rw [if_pos hc] at h
    refine lv_iconst hx hb d_ES_commit_8 kn_i_0 ?_
    obtain ⟨rfl, rfl⟩ := Prod.mk.inj (Option.some.inj h)
    exact xr_zret C X hlk hr d_ES_commit_9 rfl (Nat.le_of_ble_eq_true rfl) (Nat.le_of_ble_eq_true rfl)
theorem kc_ES_commit (l : Launch) (E : xe) {th : Nat} {x1 : Int32} {r : Int32} (h : kf_ES_commit_0 K th x1 = some (r, K')) : Met l y_ES_commit (Cond.code y_ES_commit b_ES_commit 2 (some .boolean) :: w_all) { frames := 3, cells := 0, slots := 0, locals := 69 } (va_Pc [.ref th, .int x1] (fun U => xx_B E K M U)) (xq_i E K' M r) 0 0 (xe_A E) :=
  xr_met (by decide) (Nat.le_of_ble_eq_true rfl) fun p e s m below meth c ls C X hlk hr hin hl => kw_ES_commit_0 C hlk hr hin X hl h
set_option maxHeartbeats 4000000 in
set_option maxRecDepth 100000 in
theorem kw_Client_drop_0 {th : Nat} (C : xx_C p m c b_Client_drop 1 s args Rn_Client E) (hlk : meth.locks = false) (hr : meth.sig.returnType = none) (hin : meth.name = "drop") (X : xx_S E K M s H locs) (hl : lv_has ls 1 [(0, .ref th)]) (h : kf_Client_drop_0 K th = some K') : W p l e { frames := 0, cells := 0, slots := 0, locals := 0 } s m args below meth c H locs 0 0 (MQ below (xq_v E K' M) args s 0 0 (xe_A E)) (F0 m 0 ls []) := by
  have hx := C.1.1
  have hb := C.1.2.1
  unfold kf_Client_drop_0 at h
  refine lv_aload_n hx hb d_Client_drop_0 rfl (lv_at hl 0 rfl) ?_
  refine lv_aload_n hx hb d_Client_drop_1 rfl (lv_at hl 0 rfl) ?_
  replace h := xb h
  obtain ⟨v1, hv, h⟩ := h
  refine xr_gi C X xc_Client (by decide) 3 (by decide) (by decide) rfl m_34 d_Client_drop_2 hv ?_
  refine lv_iconst hx hb d_Client_drop_5 kn_i_3 ?_
  refine lv_icmp_ne (tgt := 14) hx hb d_Client_drop_6 (by decide +kernel) (fun hc => ?_) (fun hc => ?_)
  · rw [if_neg hc] at h
    refine lv_bipush hx hb d_Client_drop_14 kn_b_8 ?_
    replace h := xb h
    obtain ⟨K2, hv, h⟩ := h
    refine xr_pi C X xc_Client (by decide) 3 (by decide) (by decide) rfl rfl rfl m_34 d_Client_drop_16 hv (fun H locs X => ?_)
    obtain rfl := Option.some.inj h
    exact xr_vret C X hlk hr d_Client_drop_19 (Nat.le_of_ble_eq_true rfl) (Nat.le_of_ble_eq_true rfl)
  · rw [if_pos hc] at h
    refine lv_bipush hx hb d_Client_drop_9 kn_b_7 ?_
    refine lv_goto (tgt := 16) hx hb d_Client_drop_11 (by decide +kernel) ?_
    replace h := xb h
    obtain ⟨K3, hv, h⟩ := h
    refine xr_pi C X xc_Client (by decide) 3 (by decide) (by decide) rfl rfl rfl m_34 d_Client_drop_16 hv (fun H locs X => ?_)
    obtain rfl := Option.some.inj h
    exact xr_vret C X hlk hr d_Client_drop_19 (Nat.le_of_ble_eq_true rfl) (Nat.le_of_ble_eq_true rfl)
theorem kc_Client_drop (l : Launch) (E : xe) {th : Nat} (h : kf_Client_drop_0 K th = some K') : Met l y_Client_drop (Cond.code y_Client_drop b_Client_drop 1 none :: w_all) { frames := 0, cells := 0, slots := 0, locals := 0 } (va_Pc [.ref th] (fun U => xx_B E K M U)) (xq_v E K' M) 0 0 (xe_A E) :=
  xr_met (by decide) (Nat.le_of_ble_eq_true rfl) fun p e s m below meth c ls C X hlk hr hin hl => kw_Client_drop_0 C hlk hr hin X hl h
set_option maxHeartbeats 4000000 in
set_option maxRecDepth 100000 in
theorem kw_ES_giveUp_0 {th : Nat} {x1 : Int32} {r : Int32} (C : xx_C p m c b_ES_giveUp 2 s args Rn_ES E) (hlk : meth.locks = false) (hr : meth.sig.returnType = (some .boolean)) (hin : meth.name = "giveUp") (X : xx_S E K M s H locs) (hl : lv_has ls 2 [(0, .ref th), (1, .int x1)]) (h : kf_ES_giveUp_0 K th x1 = some (r, K')) : W p l e { frames := 1, cells := 0, slots := 0, locals := 20 } s m args below meth c H locs 0 0 (MQ below (xq_i E K' M r) args s 0 0 (xe_A E)) (F0 m 0 ls []) := by
  have hx := C.1.1
  have hb := C.1.2.1
  unfold kf_ES_giveUp_0 at h
  refine lv_iload_n hx hb d_ES_giveUp_0 rfl (lv_at hl 1 rfl) ?_
  replace h := xpb h
  obtain ⟨r2, K1, hv, h⟩ := h
  refine xr_ki (va_runS (As := [.int x1]) (rest := []) C.1 (kc_ES_isClient l E hv) (cwS 1 C.1.2.2.2.2 (xw_S m_108 m_109 m_106 m_110) rfl rfl rfl ky_ES_isClient ⟨(Nat.le_of_ble_eq_true rfl), (Nat.le_of_ble_eq_true rfl)⟩) (xr_pS C X) rfl rfl hl.1 rfl (lv_room (Nat.le_of_ble_eq_true rfl)) d_ES_giveUp_1 ⟨(Nat.le_of_ble_eq_true rfl), (Nat.le_of_ble_eq_true rfl)⟩) X (fun H locs X => ?_)
  refine lv_if_eq (tgt := 19) hx hb d_ES_giveUp_4 (by decide +kernel) (fun hc => ?_) (fun hc => ?_)
  · rw [if_pos hc] at h
    refine lv_iconst hx hb d_ES_giveUp_19 kn_i_0 ?_
    obtain ⟨rfl, rfl⟩ := Prod.mk.inj (Option.some.inj h)
    exact xr_zret C X hlk hr d_ES_giveUp_20 rfl (Nat.le_of_ble_eq_true rfl) (Nat.le_of_ble_eq_true rfl)
  · rw [if_neg hc] at h
    refine lv_aload_n hx hb d_ES_giveUp_7 rfl (lv_at hl 0 rfl) ?_
    replace h := xb h
    obtain ⟨v3, hv, h⟩ := h
    refine xr_gr C X xc_ES (by decide) 3 (by decide) (by decide) rfl m_63 d_ES_giveUp_8 hv ?_
    refine lv_iload_n hx hb d_ES_giveUp_11 rfl (lv_at hl 1 rfl) ?_
    replace h := xb h
    obtain ⟨a5, rfl, h⟩ := h
    replace h := xb h
    obtain ⟨v4, hv, h⟩ := h
    refine xr_aald C X 5 (by decide) rfl rfl d_ES_giveUp_12 hv ?_
    replace h := xb h
    obtain ⟨a6, rfl, h⟩ := h
    replace h := xb h
    obtain ⟨_, hO8, h⟩ := h
    replace h := xpb h
    obtain ⟨r9, K7, hv, h⟩ := h
    refine xr_ki (va_runV (As := []) (rest := []) C.1 (kc_Client_isBusy l E hv) (cwV 0 C.1.2.2.2.2 (xw_V m_136 m_137 m_138 m_88 m_139) rfl rfl rfl ky_Client_isBusy ⟨(Nat.le_of_ble_eq_true rfl), (Nat.le_of_ble_eq_true rfl)⟩) (xr_pV C X xc_Client.1 (xk_Xo (xOk hO8) (by decide))) rfl rfl hl.1 rfl (lv_room (Nat.le_of_ble_eq_true rfl)) d_ES_giveUp_13 ⟨(Nat.le_of_ble_eq_true rfl), (Nat.le_of_ble_eq_true rfl)⟩) X (fun H locs X => ?_)
    refine lv_if_ne (tgt := 21) hx hb d_ES_giveUp_16 (by decide +kernel) (fun hc => ?_) (fun hc => ?_)
    · rw [if_neg hc] at h
      refine lv_aload_n hx hb d_ES_giveUp_21 rfl (lv_at hl 0 rfl) ?_
      replace h := xb h
      obtain ⟨v10, hv, h⟩ := h
      refine xr_gr C X xc_ES (by decide) 3 (by decide) (by decide) rfl m_63 d_ES_giveUp_22 hv ?_
      refine lv_iload_n hx hb d_ES_giveUp_25 rfl (lv_at hl 1 rfl) ?_
      replace h := xb h
      obtain ⟨a12, rfl, h⟩ := h
      replace h := xb h
      obtain ⟨v11, hv, h⟩ := h
      refine xr_aald C X 5 (by decide) rfl rfl d_ES_giveUp_26 hv ?_
      replace h := xb h
      obtain ⟨a13, rfl, h⟩ := h
      replace h := xb h
      obtain ⟨_, hO15, h⟩ := h
      replace h := xb h
      obtain ⟨K14, hv, h⟩ := h
      refine xr_kv (va_runV (As := []) (rest := []) C.1 (kc_Client_drop l E hv) (cwV 0 C.1.2.2.2.2 (xw_V m_199 m_200 m_201 m_88 m_202) rfl rfl rfl ky_Client_drop ⟨(Nat.le_of_ble_eq_true rfl), (Nat.le_of_ble_eq_true rfl)⟩) (xr_pV C X xc_Client.1 (xk_Xo (xOk hO15) (by decide))) rfl rfl hl.1 rfl (lv_room (Nat.le_of_ble_eq_true rfl)) d_ES_giveUp_27 ⟨(Nat.le_of_ble_eq_true rfl), (Nat.le_of_ble_eq_true rfl)⟩) X (fun H locs X => ?_)
      refine lv_iconst hx hb d_ES_giveUp_30 kn_i_1 ?_
      obtain ⟨rfl, rfl⟩ := Prod.mk.inj (Option.some.inj h)
      exact xr_zret C X hlk hr d_ES_giveUp_31 rfl (Nat.le_of_ble_eq_true rfl) (Nat.le_of_ble_eq_true rfl)
    · rw [if_pos hc] at h
      refine lv_iconst hx hb d_ES_giveUp_19 kn_i_0 ?_
      obtain ⟨rfl, rfl⟩ := Prod.mk.inj (Option.some.inj h)
      exact xr_zret C X hlk hr d_ES_giveUp_20 rfl (Nat.le_of_ble_eq_true rfl) (Nat.le_of_ble_eq_true rfl)
theorem kc_ES_giveUp (l : Launch) (E : xe) {th : Nat} {x1 : Int32} {r : Int32} (h : kf_ES_giveUp_0 K th x1 = some (r, K')) : Met l y_ES_giveUp (Cond.code y_ES_giveUp b_ES_giveUp 2 (some .boolean) :: w_all) { frames := 1, cells := 0, slots := 0, locals := 20 } (va_Pc [.ref th, .int x1] (fun U => xx_B E K M U)) (xq_i E K' M r) 0 0 (xe_A E) :=
  xr_met (by decide) (Nat.le_of_ble_eq_true rfl) fun p e s m below meth c ls C X hlk hr hin hl => kw_ES_giveUp_0 C hlk hr hin X hl h
set_option maxHeartbeats 4000000 in
set_option maxRecDepth 100000 in
theorem kw_Client_code_0 {th : Nat} {r : Int32} (C : xx_C p m c b_Client_code 1 s args Rn_Client E) (hlk : meth.locks = false) (hr : meth.sig.returnType = (some .int)) (hin : meth.name = "code") (X : xx_S E K M s H locs) (hl : lv_has ls 1 [(0, .ref th)]) (h : kf_Client_code_0 K th = some (r, K')) : W p l e { frames := 0, cells := 0, slots := 0, locals := 0 } s m args below meth c H locs 0 0 (MQ below (xq_i E K' M r) args s 0 0 (xe_A E)) (F0 m 0 ls []) := by
  have hx := C.1.1
  have hb := C.1.2.1
  unfold kf_Client_code_0 at h
  refine lv_aload_n hx hb d_Client_code_0 rfl (lv_at hl 0 rfl) ?_
  replace h := xb h
  obtain ⟨v1, hv, h⟩ := h
  refine xr_gi C X xc_Client (by decide) 3 (by decide) (by decide) rfl m_34 d_Client_code_1 hv ?_
  refine lv_bipush hx hb d_Client_code_4 kn_b_16 ?_
  refine lv_aload_n hx hb d_Client_code_6 rfl (lv_at hl 0 rfl) ?_
  replace h := xb h
  obtain ⟨v2, hv, h⟩ := h
  refine xr_gi C X xc_Client (by decide) 5 (by decide) (by decide) rfl m_128 d_Client_code_7 hv ?_
  refine lv_imul hx hb d_Client_code_10 ?_
  refine lv_iadd hx hb d_Client_code_11 ?_
  refine lv_ldc hx hb C.1.2.2.2.1 (C.1.2.2.2.2 _ m_203) d_Client_code_12 ?_
  refine lv_aload_n hx hb d_Client_code_14 rfl (lv_at hl 0 rfl) ?_
  replace h := xb h
  obtain ⟨v3, hv, h⟩ := h
  refine xr_gi C X xc_Client (by decide) 6 (by decide) (by decide) rfl m_129 d_Client_code_15 hv ?_
  refine lv_imul hx hb d_Client_code_18 ?_
  refine lv_iadd hx hb d_Client_code_19 ?_
  obtain ⟨rfl, rfl⟩ := Prod.mk.inj (Option.some.inj h)
  exact xr_iret C X hlk hr d_Client_code_20 rfl (Nat.le_of_ble_eq_true rfl) (Nat.le_of_ble_eq_true rfl)
theorem kc_Client_code (l : Launch) (E : xe) {th : Nat} {r : Int32} (h : kf_Client_code_0 K th = some (r, K')) : Met l y_Client_code (Cond.code y_Client_code b_Client_code 1 (some .int) :: w_all) { frames := 0, cells := 0, slots := 0, locals := 0 } (va_Pc [.ref th] (fun U => xx_B E K M U)) (xq_i E K' M r) 0 0 (xe_A E) :=
  xr_met (by decide) (Nat.le_of_ble_eq_true rfl) fun p e s m below meth c ls C X hlk hr hin hl => kw_Client_code_0 C hlk hr hin X hl h
set_option maxHeartbeats 4000000 in
set_option maxRecDepth 100000 in
theorem kw_ES_status_0 {th : Nat} {x1 : Int32} {r : Int32} (C : xx_C p m c b_ES_status 2 s args Rn_ES E) (hlk : meth.locks = false) (hr : meth.sig.returnType = (some .int)) (hin : meth.name = "status") (X : xx_S E K M s H locs) (hl : lv_has ls 2 [(0, .ref th), (1, .int x1)]) (h : kf_ES_status_0 K th x1 = some (r, K')) : W p l e { frames := 1, cells := 0, slots := 0, locals := 20 } s m args below meth c H locs 0 0 (MQ below (xq_i E K' M r) args s 0 0 (xe_A E)) (F0 m 0 ls []) := by
  have hx := C.1.1
  have hb := C.1.2.1
  unfold kf_ES_status_0 at h
  refine lv_iload_n hx hb d_ES_status_0 rfl (lv_at hl 1 rfl) ?_
  replace h := xpb h
  obtain ⟨r2, K1, hv, h⟩ := h
  refine xr_ki (va_runS (As := [.int x1]) (rest := []) C.1 (kc_ES_isClient l E hv) (cwS 1 C.1.2.2.2.2 (xw_S m_108 m_109 m_106 m_110) rfl rfl rfl ky_ES_isClient ⟨(Nat.le_of_ble_eq_true rfl), (Nat.le_of_ble_eq_true rfl)⟩) (xr_pS C X) rfl rfl hl.1 rfl (lv_room (Nat.le_of_ble_eq_true rfl)) d_ES_status_1 ⟨(Nat.le_of_ble_eq_true rfl), (Nat.le_of_ble_eq_true rfl)⟩) X (fun H locs X => ?_)
  refine lv_if_eq (tgt := 19) hx hb d_ES_status_4 (by decide +kernel) (fun hc => ?_) (fun hc => ?_)
  · rw [if_pos hc] at h
    refine lv_iconst hx hb d_ES_status_19 kn_i_m1 ?_
    obtain ⟨rfl, rfl⟩ := Prod.mk.inj (Option.some.inj h)
    exact xr_iret C X hlk hr d_ES_status_20 rfl (Nat.le_of_ble_eq_true rfl) (Nat.le_of_ble_eq_true rfl)
  · rw [if_neg hc] at h
    refine lv_aload_n hx hb d_ES_status_7 rfl (lv_at hl 0 rfl) ?_
    replace h := xb h
    obtain ⟨v3, hv, h⟩ := h
    refine xr_gr C X xc_ES (by decide) 3 (by decide) (by decide) rfl m_63 d_ES_status_8 hv ?_
    refine lv_iload_n hx hb d_ES_status_11 rfl (lv_at hl 1 rfl) ?_
    replace h := xb h
    obtain ⟨a5, rfl, h⟩ := h
    replace h := xb h
    obtain ⟨v4, hv, h⟩ := h
    refine xr_aald C X 5 (by decide) rfl rfl d_ES_status_12 hv ?_
    replace h := xb h
    obtain ⟨a6, rfl, h⟩ := h
    replace h := xb h
    obtain ⟨_, hO8, h⟩ := h
    replace h := xpb h
    obtain ⟨r9, K7, hv, h⟩ := h
    refine xr_ki (va_runV (As := []) (rest := []) C.1 (kc_Client_code l E hv) (cwV 0 C.1.2.2.2.2 (xw_V m_204 m_205 m_206 m_88 m_207) rfl rfl rfl ky_Client_code ⟨(Nat.le_of_ble_eq_true rfl), (Nat.le_of_ble_eq_true rfl)⟩) (xr_pV C X xc_Client.1 (xk_Xo (xOk hO8) (by decide))) rfl rfl hl.1 rfl (lv_room (Nat.le_of_ble_eq_true rfl)) d_ES_status_13 ⟨(Nat.le_of_ble_eq_true rfl), (Nat.le_of_ble_eq_true rfl)⟩) X (fun H locs X => ?_)
    refine lv_goto (tgt := 20) hx hb d_ES_status_16 (by decide +kernel) ?_
    obtain ⟨rfl, rfl⟩ := Prod.mk.inj (Option.some.inj h)
    exact xr_iret C X hlk hr d_ES_status_20 rfl (Nat.le_of_ble_eq_true rfl) (Nat.le_of_ble_eq_true rfl)
theorem kc_ES_status (l : Launch) (E : xe) {th : Nat} {x1 : Int32} {r : Int32} (h : kf_ES_status_0 K th x1 = some (r, K')) : Met l y_ES_status (Cond.code y_ES_status b_ES_status 2 (some .int) :: w_all) { frames := 1, cells := 0, slots := 0, locals := 20 } (va_Pc [.ref th, .int x1] (fun U => xx_B E K M U)) (xq_i E K' M r) 0 0 (xe_A E) :=
  xr_met (by decide) (Nat.le_of_ble_eq_true rfl) fun p e s m below meth c ls C X hlk hr hin hl => kw_ES_status_0 C hlk hr hin X hl h
set_option maxHeartbeats 4000000 in
set_option maxRecDepth 100000 in
theorem kw_ES_messages_0 {th : Nat} {r : Int32} (C : xx_C p m c b_ES_messages 1 s args Rn_ES E) (hlk : meth.locks = false) (hr : meth.sig.returnType = (some .int)) (hin : meth.name = "messages") (X : xx_S E K M s H locs) (hl : lv_has ls 1 [(0, .ref th)]) (h : kf_ES_messages_0 K th = some (r, K')) : W p l e { frames := 0, cells := 0, slots := 0, locals := 0 } s m args below meth c H locs 0 0 (MQ below (xq_i E K' M r) args s 0 0 (xe_A E)) (F0 m 0 ls []) := by
  have hx := C.1.1
  have hb := C.1.2.1
  unfold kf_ES_messages_0 at h
  refine lv_aload_n hx hb d_ES_messages_0 rfl (lv_at hl 0 rfl) ?_
  replace h := xb h
  obtain ⟨v1, hv, h⟩ := h
  refine xr_gr C X xc_ES (by decide) 5 (by decide) (by decide) rfl m_72 d_ES_messages_1 hv ?_
  replace h := xb h
  obtain ⟨a2, rfl, h⟩ := h
  replace h := xb h
  obtain ⟨v3, hv, h⟩ := h
  refine xr_gi C X xc_Line (by decide) 2 (by decide) (by decide) rfl m_208 d_ES_messages_4 hv ?_
  obtain ⟨rfl, rfl⟩ := Prod.mk.inj (Option.some.inj h)
  exact xr_iret C X hlk hr d_ES_messages_7 rfl (Nat.le_of_ble_eq_true rfl) (Nat.le_of_ble_eq_true rfl)
theorem kc_ES_messages (l : Launch) (E : xe) {th : Nat} {r : Int32} (h : kf_ES_messages_0 K th = some (r, K')) : Met l y_ES_messages (Cond.code y_ES_messages b_ES_messages 1 (some .int) :: w_all) { frames := 0, cells := 0, slots := 0, locals := 0 } (va_Pc [.ref th] (fun U => xx_B E K M U)) (xq_i E K' M r) 0 0 (xe_A E) :=
  xr_met (by decide) (Nat.le_of_ble_eq_true rfl) fun p e s m below meth c ls C X hlk hr hin hl => kw_ES_messages_0 C hlk hr hin X hl h
set_option maxHeartbeats 4000000 in
set_option maxRecDepth 100000 in
theorem kw_Line_has_0 {th : Nat} {x1 : Int32} {r : Int32} (C : xx_C p m c b_Line_has 2 s args Rn_Line E) (hlk : meth.locks = false) (hr : meth.sig.returnType = (some .boolean)) (hin : meth.name = "has") (X : xx_S E K M s H locs) (hl : lv_has ls 2 [(0, .ref th), (1, .int x1)]) (h : kf_Line_has_0 K th x1 = some (r, K')) : W p l e { frames := 0, cells := 0, slots := 0, locals := 0 } s m args below meth c H locs 0 0 (MQ below (xq_i E K' M r) args s 0 0 (xe_A E)) (F0 m 0 ls []) := by
  have hx := C.1.1
  have hb := C.1.2.1
  unfold kf_Line_has_0 at h
  refine lv_iload_n hx hb d_Line_has_0 rfl (lv_at hl 1 rfl) ?_
  refine lv_if_lt (tgt := 16) hx hb d_Line_has_1 (by decide +kernel) (fun hc => ?_) (fun hc => ?_)
  · rw [if_pos hc] at h
    refine lv_iconst hx hb d_Line_has_16 kn_i_0 ?_
    obtain ⟨rfl, rfl⟩ := Prod.mk.inj (Option.some.inj h)
    exact xr_zret C X hlk hr d_Line_has_17 rfl (Nat.le_of_ble_eq_true rfl) (Nat.le_of_ble_eq_true rfl)
  · rw [if_neg hc] at h
    refine lv_iload_n hx hb d_Line_has_4 rfl (lv_at hl 1 rfl) ?_
    refine lv_aload_n hx hb d_Line_has_5 rfl (lv_at hl 0 rfl) ?_
    replace h := xb h
    obtain ⟨v1, hv, h⟩ := h
    refine xr_gi C X xc_Line (by decide) 2 (by decide) (by decide) rfl m_122 d_Line_has_6 hv ?_
    refine lv_icmp_ge (tgt := 16) hx hb d_Line_has_9 (by decide +kernel) (fun hc => ?_) (fun hc => ?_)
    · rw [if_pos hc] at h
      refine lv_iconst hx hb d_Line_has_16 kn_i_0 ?_
      obtain ⟨rfl, rfl⟩ := Prod.mk.inj (Option.some.inj h)
      exact xr_zret C X hlk hr d_Line_has_17 rfl (Nat.le_of_ble_eq_true rfl) (Nat.le_of_ble_eq_true rfl)
    · rw [if_neg hc] at h
      refine lv_iconst hx hb d_Line_has_12 kn_i_1 ?_
      refine lv_goto (tgt := 17) hx hb d_Line_has_13 (by decide +kernel) ?_
      obtain ⟨rfl, rfl⟩ := Prod.mk.inj (Option.some.inj h)
      exact xr_zret C X hlk hr d_Line_has_17 rfl (Nat.le_of_ble_eq_true rfl) (Nat.le_of_ble_eq_true rfl)
theorem kc_Line_has (l : Launch) (E : xe) {th : Nat} {x1 : Int32} {r : Int32} (h : kf_Line_has_0 K th x1 = some (r, K')) : Met l y_Line_has (Cond.code y_Line_has b_Line_has 2 (some .boolean) :: w_all) { frames := 0, cells := 0, slots := 0, locals := 0 } (va_Pc [.ref th, .int x1] (fun U => xx_B E K M U)) (xq_i E K' M r) 0 0 (xe_A E) :=
  xr_met (by decide) (Nat.le_of_ble_eq_true rfl) fun p e s m below meth c ls C X hlk hr hin hl => kw_Line_has_0 C hlk hr hin X hl h
set_option maxHeartbeats 4000000 in
set_option maxRecDepth 100000 in
theorem kw_Message_code_0 {th : Nat} {r : Int32} (C : xx_C p m c b_Message_code 1 s args Rn_Message E) (hlk : meth.locks = false) (hr : meth.sig.returnType = (some .int)) (hin : meth.name = "code") (X : xx_S E K M s H locs) (hl : lv_has ls 1 [(0, .ref th)]) (h : kf_Message_code_0 K th = some (r, K')) : W p l e { frames := 0, cells := 0, slots := 0, locals := 0 } s m args below meth c H locs 0 0 (MQ below (xq_i E K' M r) args s 0 0 (xe_A E)) (F0 m 0 ls []) := by
  have hx := C.1.1
  have hb := C.1.2.1
  unfold kf_Message_code_0 at h
  refine lv_aload_n hx hb d_Message_code_0 rfl (lv_at hl 0 rfl) ?_
  replace h := xb h
  obtain ⟨v1, hv, h⟩ := h
  refine xr_gi C X xc_Message (by decide) 0 (by decide) (by decide) rfl m_112 d_Message_code_1 hv ?_
  refine lv_bipush hx hb d_Message_code_4 kn_b_16 ?_
  refine lv_aload_n hx hb d_Message_code_6 rfl (lv_at hl 0 rfl) ?_
  replace h := xb h
  obtain ⟨v2, hv, h⟩ := h
  refine xr_gi C X xc_Message (by decide) 1 (by decide) (by decide) rfl m_113 d_Message_code_7 hv ?_
  refine lv_imul hx hb d_Message_code_10 ?_
  refine lv_iadd hx hb d_Message_code_11 ?_
  refine lv_sipush hx hb d_Message_code_12 kn_s_256 ?_
  refine lv_aload_n hx hb d_Message_code_15 rfl (lv_at hl 0 rfl) ?_
  replace h := xb h
  obtain ⟨v3, hv, h⟩ := h
  refine xr_gi C X xc_Message (by decide) 2 (by decide) (by decide) rfl m_114 d_Message_code_16 hv ?_
  refine lv_imul hx hb d_Message_code_19 ?_
  refine lv_iadd hx hb d_Message_code_20 ?_
  refine lv_ldc hx hb C.1.2.2.2.1 (C.1.2.2.2.2 _ m_209) d_Message_code_21 ?_
  refine lv_aload_n hx hb d_Message_code_23 rfl (lv_at hl 0 rfl) ?_
  replace h := xb h
  obtain ⟨v4, hv, h⟩ := h
  refine xr_gi C X xc_Message (by decide) 3 (by decide) (by decide) rfl m_115 d_Message_code_24 hv ?_
  refine lv_imul hx hb d_Message_code_27 ?_
  refine lv_iadd hx hb d_Message_code_28 ?_
  obtain ⟨rfl, rfl⟩ := Prod.mk.inj (Option.some.inj h)
  exact xr_iret C X hlk hr d_Message_code_29 rfl (Nat.le_of_ble_eq_true rfl) (Nat.le_of_ble_eq_true rfl)
theorem kc_Message_code (l : Launch) (E : xe) {th : Nat} {r : Int32} (h : kf_Message_code_0 K th = some (r, K')) : Met l y_Message_code (Cond.code y_Message_code b_Message_code 1 (some .int) :: w_all) { frames := 0, cells := 0, slots := 0, locals := 0 } (va_Pc [.ref th] (fun U => xx_B E K M U)) (xq_i E K' M r) 0 0 (xe_A E) :=
  xr_met (by decide) (Nat.le_of_ble_eq_true rfl) fun p e s m below meth c ls C X hlk hr hin hl => kw_Message_code_0 C hlk hr hin X hl h
set_option maxHeartbeats 4000000 in
set_option maxRecDepth 100000 in
theorem kw_ES_message_0 {th : Nat} {x1 : Int32} {r : Int32} (C : xx_C p m c b_ES_message 2 s args Rn_ES E) (hlk : meth.locks = false) (hr : meth.sig.returnType = (some .int)) (hin : meth.name = "message") (X : xx_S E K M s H locs) (hl : lv_has ls 2 [(0, .ref th), (1, .int x1)]) (h : kf_ES_message_0 K th x1 = some (r, K')) : W p l e { frames := 1, cells := 0, slots := 0, locals := 21 } s m args below meth c H locs 0 0 (MQ below (xq_i E K' M r) args s 0 0 (xe_A E)) (F0 m 0 ls []) := by
  have hx := C.1.1
  have hb := C.1.2.1
  unfold kf_ES_message_0 at h
  refine lv_aload_n hx hb d_ES_message_0 rfl (lv_at hl 0 rfl) ?_
  replace h := xb h
  obtain ⟨v1, hv, h⟩ := h
  refine xr_gr C X xc_ES (by decide) 5 (by decide) (by decide) rfl m_72 d_ES_message_1 hv ?_
  refine lv_iload_n hx hb d_ES_message_4 rfl (lv_at hl 1 rfl) ?_
  replace h := xb h
  obtain ⟨a2, rfl, h⟩ := h
  replace h := xb h
  obtain ⟨_, hO4, h⟩ := h
  replace h := xpb h
  obtain ⟨r5, K3, hv, h⟩ := h
  refine xr_ki (va_runV (As := [.int x1]) (rest := []) C.1 (kc_Line_has l E hv) (cwV 1 C.1.2.2.2.2 (xw_V m_210 m_211 m_212 m_68 m_213) rfl rfl rfl ky_Line_has ⟨(Nat.le_of_ble_eq_true rfl), (Nat.le_of_ble_eq_true rfl)⟩) (xr_pV C X xc_Line.1 (xk_Xo (xOk hO4) (by decide))) rfl rfl hl.1 rfl (lv_room (Nat.le_of_ble_eq_true rfl)) d_ES_message_5 ⟨(Nat.le_of_ble_eq_true rfl), (Nat.le_of_ble_eq_true rfl)⟩) X (fun H locs X => ?_)
  refine lv_if_eq (tgt := 26) hx hb d_ES_message_8 (by decide +kernel) (fun hc => ?_) (fun hc => ?_)
  · rw [if_pos hc] at h
    refine lv_iconst hx hb d_ES_message_26 kn_i_m1 ?_
    obtain ⟨rfl, rfl⟩ := Prod.mk.inj (Option.some.inj h)
    exact xr_iret C X hlk hr d_ES_message_27 rfl (Nat.le_of_ble_eq_true rfl) (Nat.le_of_ble_eq_true rfl)
  · rw [if_neg hc] at h
    refine lv_aload_n hx hb d_ES_message_11 rfl (lv_at hl 0 rfl) ?_
    replace h := xb h
    obtain ⟨v6, hv, h⟩ := h
    refine xr_gr C X xc_ES (by decide) 5 (by decide) (by decide) rfl m_72 d_ES_message_12 hv ?_
    replace h := xb h
    obtain ⟨a7, rfl, h⟩ := h
    replace h := xb h
    obtain ⟨v8, hv, h⟩ := h
    refine xr_gr C X xc_Line (by decide) 0 (by decide) (by decide) rfl m_214 d_ES_message_15 hv ?_
    refine lv_iload_n hx hb d_ES_message_18 rfl (lv_at hl 1 rfl) ?_
    replace h := xb h
    obtain ⟨a10, rfl, h⟩ := h
    replace h := xb h
    obtain ⟨v9, hv, h⟩ := h
    refine xr_aald C X 7 (by decide) rfl rfl d_ES_message_19 hv ?_
    replace h := xb h
    obtain ⟨a11, rfl, h⟩ := h
    replace h := xb h
    obtain ⟨_, hO13, h⟩ := h
    replace h := xpb h
    obtain ⟨r14, K12, hv, h⟩ := h
    refine xr_ki (va_runV (As := []) (rest := []) C.1 (kc_Message_code l E hv) (cwV 0 C.1.2.2.2.2 (xw_V m_215 m_216 m_217 m_7 m_218) rfl rfl rfl ky_Message_code ⟨(Nat.le_of_ble_eq_true rfl), (Nat.le_of_ble_eq_true rfl)⟩) (xr_pV C X xc_Message.1 (xk_Xo (xOk hO13) (by decide))) rfl rfl hl.1 rfl (lv_room (Nat.le_of_ble_eq_true rfl)) d_ES_message_20 ⟨(Nat.le_of_ble_eq_true rfl), (Nat.le_of_ble_eq_true rfl)⟩) X (fun H locs X => ?_)
    refine lv_goto (tgt := 27) hx hb d_ES_message_23 (by decide +kernel) ?_
    obtain ⟨rfl, rfl⟩ := Prod.mk.inj (Option.some.inj h)
    exact xr_iret C X hlk hr d_ES_message_27 rfl (Nat.le_of_ble_eq_true rfl) (Nat.le_of_ble_eq_true rfl)
theorem kc_ES_message (l : Launch) (E : xe) {th : Nat} {x1 : Int32} {r : Int32} (h : kf_ES_message_0 K th x1 = some (r, K')) : Met l y_ES_message (Cond.code y_ES_message b_ES_message 2 (some .int) :: w_all) { frames := 1, cells := 0, slots := 0, locals := 21 } (va_Pc [.ref th, .int x1] (fun U => xx_B E K M U)) (xq_i E K' M r) 0 0 (xe_A E) :=
  xr_met (by decide) (Nat.le_of_ble_eq_true rfl) fun p e s m below meth c ls C X hlk hr hin hl => kw_ES_message_0 C hlk hr hin X hl h
set_option maxHeartbeats 4000000 in
set_option maxRecDepth 100000 in
theorem kw_Line_take_53 {x2 : Option Nat} {r : Option Nat} (C : xx_C p m c b_Line_take 4 s args Rn_Line E) (hlk : meth.locks = false) (hr : meth.sig.returnType = (some (.object "EpochStore$Message"))) (hin : meth.name = "take") (X : xx_S E K M s H locs) (hl : lv_has ls 4 [(2, va_rf x2)]) (h : kf_Line_take_53 K x2 = some (r, K')) : W p l e { frames := 0, cells := 0, slots := 0, locals := 0 } s m args below meth c H locs 0 0 (MQ below (xq_r E K' M r) args s 0 0 (xe_A E)) (F0 m 53 ls []) := by
  have hx := C.1.1
  have hb := C.1.2.1
  unfold kf_Line_take_53 at h
  refine xr_aload_n hx hb d_Line_take_53 rfl (lv_at hl 0 rfl) ?_
  obtain ⟨rfl, rfl⟩ := Prod.mk.inj (Option.some.inj h)
  exact xr_aret C X hlk hr d_Line_take_54 rfl (Nat.le_of_ble_eq_true rfl) (Nat.le_of_ble_eq_true rfl)
set_option maxHeartbeats 4000000 in
set_option maxRecDepth 100000 in
theorem kwb_Line_take_9 {rec9 : xk → Nat → Option Nat → Int32 → Option (Option Nat × xk)} {th : Nat} {x2 : Option Nat} {x3 : Int32} {r : Option Nat} (C : xx_C p m c b_Line_take 4 s args Rn_Line E) (hlk : meth.locks = false) (hr : meth.sig.returnType = (some (.object "EpochStore$Message"))) (hin : meth.name = "take") (hrec9 : ∀ {H : Heap} {locs : List Loc} {ls : Array Slot} {K : xk} {th : Nat} {x2 : Option Nat} {x3 : Int32}, xx_S E K M s H locs → lv_has ls 4 [(0, .ref th), (2, va_rf x2), (3, .int x3)] → rec9 K th x2 x3 = some (r, K') → W p l e { frames := 0, cells := 0, slots := 0, locals := 0 } s m args below meth c H locs 0 0 (MQ below (xq_r E K' M r) args s 0 0 (xe_A E)) (F0 m 9 ls [])) (X : xx_S E K M s H locs) (hl : lv_has ls 4 [(0, .ref th), (2, va_rf x2), (3, .int x3)]) (h : kb_Line_take_9 rec9 K th x2 x3 = some (r, K')) : W p l e { frames := 0, cells := 0, slots := 0, locals := 0 } s m args below meth c H locs 0 0 (MQ below (xq_r E K' M r) args s 0 0 (xe_A E)) (F0 m 9 ls []) := by
  have hx := C.1.1
  have hb := C.1.2.1
  unfold kb_Line_take_9 at h
  refine lv_iload_n hx hb d_Line_take_9 rfl (lv_at hl 2 rfl) ?_
  refine lv_bipush hx hb d_Line_take_10 kn_b_24 ?_
  refine lv_icmp_ge (tgt := 35) hx hb d_Line_take_12 (by decide +kernel) (fun hc => ?_) (fun hc => ?_)
  · rw [if_pos hc] at h
    refine lv_aload_n hx hb d_Line_take_35 rfl (lv_at hl 0 rfl) ?_
    replace h := xb h
    obtain ⟨v1, hv, h⟩ := h
    refine xr_gr C X xc_Line (by decide) 0 (by decide) (by decide) rfl m_5 d_Line_take_36 hv ?_
    refine lv_bipush hx hb d_Line_take_39 kn_b_24 ?_
    refine xr_aload_n hx hb d_Line_take_41 rfl (lv_at hl 1 rfl) ?_
    replace h := xb h
    obtain ⟨a3, rfl, h⟩ := h
    replace h := xb h
    obtain ⟨K2, hv, h⟩ := h
    refine xr_aast (v := x2) C X 7 4 (by decide) (by decide) rfl rfl rfl d_Line_take_42 hv (fun H locs X => ?_)
    refine lv_aload_n hx hb d_Line_take_43 rfl (lv_at hl 0 rfl) ?_
    refine lv_dup hx hb d_Line_take_44 rfl ?_
    replace h := xb h
    obtain ⟨v4, hv, h⟩ := h
    refine xr_gi C X xc_Line (by decide) 2 (by decide) (by decide) rfl m_122 d_Line_take_45 hv ?_
    refine lv_iconst hx hb d_Line_take_48 kn_i_1 ?_
    refine lv_isub hx hb d_Line_take_49 ?_
    replace h := xb h
    obtain ⟨K5, hv, h⟩ := h
    refine xr_pi C X xc_Line (by decide) 2 (by decide) (by decide) rfl rfl rfl m_122 d_Line_take_50 hv (fun H locs X => ?_)
    exact kw_Line_take_53 (x2 := x2) C hlk hr hin  X (lv_sub hl [1] rfl) h
  · rw [if_neg hc] at h
    refine lv_aload_n hx hb d_Line_take_15 rfl (lv_at hl 0 rfl) ?_
    replace h := xb h
    obtain ⟨v6, hv, h⟩ := h
    refine xr_gr C X xc_Line (by decide) 0 (by decide) (by decide) rfl m_5 d_Line_take_16 hv ?_
    refine lv_iload_n hx hb d_Line_take_19 rfl (lv_at hl 2 rfl) ?_
    refine lv_aload_n hx hb d_Line_take_20 rfl (lv_at hl 0 rfl) ?_
    replace h := xb h
    obtain ⟨v7, hv, h⟩ := h
    refine xr_gr C X xc_Line (by decide) 0 (by decide) (by decide) rfl m_5 d_Line_take_21 hv ?_
    refine lv_iload_n hx hb d_Line_take_24 rfl (lv_at hl 2 rfl) ?_
    refine lv_iconst hx hb d_Line_take_25 kn_i_1 ?_
    refine lv_iadd hx hb d_Line_take_26 ?_
    replace h := xb h
    obtain ⟨a9, rfl, h⟩ := h
    replace h := xb h
    obtain ⟨v8, hv, h⟩ := h
    refine xr_aald C X 7 (by decide) rfl rfl d_Line_take_27 hv ?_
    replace h := xb h
    obtain ⟨a11, rfl, h⟩ := h
    replace h := xb h
    obtain ⟨K10, hv, h⟩ := h
    refine xr_aast (v := v8) C X 7 4 (by decide) (by decide) rfl rfl rfl d_Line_take_28 hv (fun H locs X => ?_)
    refine lv_iinc (k := 2) (v := (x3 + (1 : Int32))) (lv' := [(3, .int (x3 + (1 : Int32))), (0, .ref th), (2, va_rf x2)]) hx hb d_Line_take_29 hl rfl (congrArg (fun y : Int32 => x3 + y) kn_i_1) (by decide) (by simp [xr_cat, xr_c_i, xr_c_a, xr_c_l]) (fun ls hl => ?_)
    have hl : lv_has ls 4 [(3, .int (x3 + (1 : Int32))), (0, .ref th), (2, va_rf x2)] := hl
    refine lv_goto (tgt := 9) hx hb d_Line_take_32 (by decide +kernel) ?_
    exact hrec9 (th := th) (x2 := x2) (x3 := (x3 + (1 : Int32))) X (lv_sub hl [1, 2, 0] rfl) h
theorem kw_Line_take_9 {r : Option Nat} (C : xx_C p m c b_Line_take 4 s args Rn_Line E) (hlk : meth.locks = false) (hr : meth.sig.returnType = (some (.object "EpochStore$Message"))) (hin : meth.name = "take") : ∀ (n : Nat) {H : Heap} {locs : List Loc} {ls : Array Slot} {K : xk} {th : Nat} {x2 : Option Nat} {x3 : Int32}, xx_S E K M s H locs → lv_has ls 4 [(0, .ref th), (2, va_rf x2), (3, .int x3)] → kf_Line_take_9 n K th x2 x3 = some (r, K') → W p l e { frames := 0, cells := 0, slots := 0, locals := 0 } s m args below meth c H locs 0 0 (MQ below (xq_r E K' M r) args s 0 0 (xe_A E)) (F0 m 9 ls []) := by
  intro n
  induction n with
  | zero => intro H locs ls K th x2 x3 X hl h; exact nomatch (show (none : Option (Option Nat × xk)) = some _ from h)
  | succ n ih => intro H locs ls K th x2 x3 X hl h; exact kwb_Line_take_9 C hlk hr hin ih X hl h
set_option maxHeartbeats 4000000 in
set_option maxRecDepth 100000 in
theorem kw_Line_take_0 {th : Nat} {x1 : Int32} {r : Option Nat} (C : xx_C p m c b_Line_take 4 s args Rn_Line E) (hlk : meth.locks = false) (hr : meth.sig.returnType = (some (.object "EpochStore$Message"))) (hin : meth.name = "take") (X : xx_S E K M s H locs) (hl : lv_has ls 4 [(0, .ref th), (1, .int x1)]) (h : kf_Line_take_0 K th x1 = some (r, K')) : W p l e { frames := 0, cells := 0, slots := 0, locals := 0 } s m args below meth c H locs 0 0 (MQ below (xq_r E K' M r) args s 0 0 (xe_A E)) (F0 m 0 ls []) := by
  have hx := C.1.1
  have hb := C.1.2.1
  unfold kf_Line_take_0 at h
  refine lv_aload_n hx hb d_Line_take_0 rfl (lv_at hl 0 rfl) ?_
  replace h := xb h
  obtain ⟨v1, hv, h⟩ := h
  refine xr_gr C X xc_Line (by decide) 0 (by decide) (by decide) rfl m_5 d_Line_take_1 hv ?_
  refine lv_iload_n hx hb d_Line_take_4 rfl (lv_at hl 1 rfl) ?_
  replace h := xb h
  obtain ⟨a3, rfl, h⟩ := h
  replace h := xb h
  obtain ⟨v2, hv, h⟩ := h
  refine xr_aald C X 7 (by decide) rfl rfl d_Line_take_5 hv ?_
  refine xr_astore_n hx hb d_Line_take_6 rfl hl (by decide) rfl (fun ls hl => ?_)
  have hl : lv_has ls 4 [(2, va_rf v2), (0, .ref th), (1, .int x1)] := hl
  refine lv_iload_n hx hb d_Line_take_7 rfl (lv_at hl 2 rfl) ?_
  refine lv_istore_n (i := 3) (lv' := [(3, .int x1), (2, va_rf v2), (0, .ref th), (1, .int x1)]) hx hb d_Line_take_8 rfl hl (by decide) (by simp [xr_cat, xr_c_i, xr_c_a, xr_c_l]) (fun ls hl => ?_)
  have hl : lv_has ls 4 [(3, .int x1), (2, va_rf v2), (0, .ref th), (1, .int x1)] := hl
  exact kw_Line_take_9 C hlk hr hin 1000 X (lv_sub hl [2, 1, 0] rfl) h
theorem kc_Line_take (l : Launch) (E : xe) {th : Nat} {x1 : Int32} {r : Option Nat} (h : kf_Line_take_0 K th x1 = some (r, K')) : Met l y_Line_take (Cond.code y_Line_take b_Line_take 4 (some (.object "EpochStore$Message")) :: w_all) { frames := 0, cells := 0, slots := 0, locals := 0 } (va_Pc [.ref th, .int x1] (fun U => xx_B E K M U)) (xq_r E K' M r) 0 0 (xe_A E) :=
  xr_met (by decide) (Nat.le_of_ble_eq_true rfl) fun p e s m below meth c ls C X hlk hr hin hl => kw_Line_take_0 C hlk hr hin X hl h
end KW5
