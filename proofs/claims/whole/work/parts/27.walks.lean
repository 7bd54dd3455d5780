/-! EpochStore$Master.takeAcknowledgement(LEpochStore$Message;)V -/
def kf_Master_takeAcknowledgement_49 (rec2 : xk → Nat → Nat → Int32 → Option xk) (K : xk) (th : Nat) (x1 : Nat) (x2 : Int32) : Option xk := rec2 K th x1 (x2 + (1 : Int32))
def kb_Master_takeAcknowledgement_2 (rec2 : xk → Nat → Nat → Int32 → Option xk) (K : xk) (th : Nat) (x1 : Nat) (x2 : Int32) : Option xk := (xI K 8 11 th).bind fun v1 => if v1 ≤ x2 then (some K) else (xR K 8 10 th).bind fun v2 => (v2).bind fun a4 => (xRa K 10 a4 x2).bind fun v3 => (v3).bind fun a5 => (xR K 7 0 a5).bind fun v6 => (v6).bind fun a7 => (xI K 3 0 a7).bind fun v8 => (xI K 4 3 x1).bind fun v9 => if v8 = v9 then ((xR K 8 10 th).bind fun v10 => (v10).bind fun a12 => (xRa K 10 a12 x2).bind fun v11 => (v11).bind fun a13 => (xI K 7 3 a13).bind fun v14 => (xI K 4 1 x1).bind fun v15 => (xIs K 7 3 a13 (v14 ||| ((1 : Int32) <<< (v15 &&& 31)))).bind fun K16 => kf_Master_takeAcknowledgement_49 rec2 K16 th x1 x2) else kf_Master_takeAcknowledgement_49 rec2 K th x1 x2
def kf_Master_takeAcknowledgement_2 : Nat → xk → Nat → Nat → Int32 → Option xk
  | 0 => fun _ _ _ _ => none
  | n + 1 => kb_Master_takeAcknowledgement_2 (kf_Master_takeAcknowledgement_2 n)
def kf_Master_takeAcknowledgement_0 (K : xk) (th : Nat) (x1 : Nat) : Option xk := kf_Master_takeAcknowledgement_2 1000 K th x1 (0 : Int32)
/-! EpochStore$Master.removeOldestOnWay(I)V -/
def kb_Master_removeOldestOnWay_12 (rec12 : xk → Nat → Int32 → Int32 → Option xk) (K : xk) (th : Nat) (x1 : Int32) (x2 : Int32) : Option xk := (xI K 8 11 th).bind fun v1 => if v1 ≤ x2 then (some K) else (xR K 8 10 th).bind fun v2 => (xR K 8 10 th).bind fun v3 => (v3).bind fun a5 => (xRa K 10 a5 (x2 + x1)).bind fun v4 => (v2).bind fun a7 => (xRt K 10 7 a7 x2 v4).bind fun K6 => rec12 K6 th x1 (x2 + (1 : Int32))
def kf_Master_removeOldestOnWay_12 : Nat → xk → Nat → Int32 → Int32 → Option xk
  | 0 => fun _ _ _ _ => none
  | n + 1 => kb_Master_removeOldestOnWay_12 (kf_Master_removeOldestOnWay_12 n)
def kf_Master_removeOldestOnWay_0 (K : xk) (th : Nat) (x1 : Int32) : Option xk := (xI K 8 11 th).bind fun v1 => (xIs K 8 11 th (v1 - x1)).bind fun K2 => kf_Master_removeOldestOnWay_12 1000 K2 th x1 (0 : Int32)
/-! EpochStore$Master.settle(LEpochStore$Line;)V -/
def kf_Master_settle_65 (rec2 : xk → Nat → Nat → Int32 → Option xk) (K : xk) (th : Nat) (x1 : Nat) (x2 : Int32) : Option xk := rec2 K th x1 (x2 + (1 : Int32))
def kf_Master_settle_71 (K : xk) (th : Nat) (x2 : Int32) : Option xk := (xO K 8 th).bind fun _ => (kf_Master_removeOldestOnWay_0 K th x2).bind fun K1 => some K1
def kb_Master_settle_2 (rec2 : xk → Nat → Nat → Int32 → Option xk) (K : xk) (th : Nat) (x1 : Nat) (x2 : Int32) : Option xk := (xI K 8 11 th).bind fun v1 => if v1 ≤ x2 then (kf_Master_settle_71 K th x2) else (xR K 8 10 th).bind fun v2 => (v2).bind fun a4 => (xRa K 10 a4 x2).bind fun v3 => (v3).bind fun a5 => (xI K 7 3 a5).bind fun v6 => (xI K 8 1 th).bind fun v7 => if v6 = v7 then ((xR K 8 10 th).bind fun v8 => (v8).bind fun a10 => (xRa K 10 a10 x2).bind fun v9 => (v9).bind fun a11 => (xR K 7 0 a11).bind fun v12 => (v12).bind fun a13 => (xI K 3 0 a13).bind fun v14 => (xIs K 8 5 th v14).bind fun K15 => (xI K15 7 1 a11).bind fun v16 => (xI K15 7 2 a11).bind fun v17 => (xO K15 8 th).bind fun _ => xp (kf_Master_sendResult_0 K15 th v16 v17 (4 : Int32) x1) fun r20 K18 => (xI K18 8 5 th).bind fun v21 => (r20).bind fun a22 => (xIs K18 4 3 a22 v21).bind fun K23 => kf_Master_settle_65 rec2 K23 th x1 x2) else kf_Master_settle_71 K th x2
def kf_Master_settle_2 : Nat → xk → Nat → Nat → Int32 → Option xk
  | 0 => fun _ _ _ _ => none
  | n + 1 => kb_Master_settle_2 (kf_Master_settle_2 n)
def kf_Master_settle_0 (K : xk) (th : Nat) (x1 : Nat) : Option xk := kf_Master_settle_2 1000 K th x1 (0 : Int32)
/-! EpochStore$Master.receive(LEpochStore$Message;LEpochStore$Line;)V -/
def kf_Master_receive_77 (K : xk) : Option xk := some K
def kf_Master_receive_0 (K : xk) (th : Nat) (x1 : Nat) (x2 : Nat) : Option xk := (xI K 4 0 x1).bind fun v1 => if v1 = (1 : Int32) then ((xO K 8 th).bind fun _ => (kf_Master_openQuestion_0 K th x1 x2).bind fun K2 => kf_Master_receive_77 K2) else if v1 = (2 : Int32) then ((xO K 8 th).bind fun _ => (kf_Master_takeAcknowledgement_0 K th x1).bind fun K4 => (xO K4 8 th).bind fun _ => (kf_Master_settle_0 K4 th x2).bind fun K6 => kf_Master_receive_77 K6) else if v1 = (3 : Int32) then ((xO K 8 th).bind fun _ => (kf_Master_takeConfirmation_0 K th x1 x2).bind fun K8 => kf_Master_receive_77 K8) else if v1 = (4 : Int32) then ((xO K 8 th).bind fun _ => (kf_Master_takeAcknowledgement_0 K th x1).bind fun K10 => (xO K10 8 th).bind fun _ => (kf_Master_settle_0 K10 th x2).bind fun K12 => kf_Master_receive_77 K12) else if v1 = (5 : Int32) then ((xO K 8 th).bind fun _ => (kf_Master_decide_0 K th x1 x2).bind fun K14 => kf_Master_receive_77 K14) else (xO K 8 th).bind fun _ => (kf_Master_takeAcknowledgement_0 K th x1).bind fun K16 => (xO K16 8 th).bind fun _ => (kf_Master_settle_0 K16 th x2).bind fun K18 => kf_Master_receive_77 K18
section KW8
variable {p : Program} {l : Launch} {e : Env} {s : State} {m : MethodId} {args : Array Value} {below : List Frame} {meth : Method} {c : Code} {H : Heap} {locs : List Loc} {ls : Array Slot} {E : xe} {K K' : xk} {M M' : xm}
set_option maxHeartbeats 4000000 in
set_option maxRecDepth 100000 in
theorem kw_Master_takeAcknowledgement_49 {rec2 : xk → Nat → Nat → Int32 → Option xk} {th : Nat} {x1 : Nat} {x2 : Int32} (C : xx_C p m c b_Master_takeAcknowledgement 3 s args Rn_Master E) (hlk : meth.locks = false) (hr : meth.sig.returnType = none) (hin : meth.name = "takeAcknowledgement") (hrec2 : ∀ {H : Heap} {locs : List Loc} {ls : Array Slot} {K : xk} {th : Nat} {x1 : Nat} {x2 : Int32}, xx_S E K M s H locs → lv_has ls 3 [(0, .ref th), (1, .ref x1), (2, .int x2)] → rec2 K th x1 x2 = some K' → W p l e { frames := 0, cells := 0, slots := 0, locals := 0 } s m args below meth c H locs 0 0 (MQ below (xq_v E K' M) args s 0 0 (xe_A E)) (F0 m 2 ls [])) (X : xx_S E K M s H locs) (hl : lv_has ls 3 [(0, .ref th), (1, .ref x1), (2, .int x2)]) (h : kf_Master_takeAcknowledgement_49 rec2 K th x1 x2 = some K') : W p l e { frames := 0, cells := 0, slots := 0, locals := 0 } s m args below meth c H locs 0 0 (MQ below (xq_v E K' M) args s 0 0 (xe_A E)) (F0 m 49 ls []) := by
  have hx := C.1.1
  have hb := C.1.2.1
  unfold kf_Master_takeAcknowledgement_49 at h
  refine lv_iinc (k := 2) (v := (x2 + (1 : Int32))) hx hb d_Master_takeAcknowledgement_49 hl rfl (congrArg (fun y : Int32 => x2 + y) kn_i_1) (by decide) rfl (fun ls hl => ?_)
  have hl : lv_has ls 3 [(2, .int (x2 + (1 : Int32))), (0, .ref th), (1, .ref x1)] := hl
  refine lv_goto (tgt := 2) hx hb d_Master_takeAcknowledgement_52 (by decide +kernel) ?_
  exact hrec2 (th := th) (x1 := x1) (x2 := (x2 + (1 : Int32))) X (lv_sub hl [1, 2, 0] rfl) h
set_option maxHeartbeats 4000000 in
set_option maxRecDepth 100000 in
theorem kwb_Master_takeAcknowledgement_2 {rec2 : xk → Nat → Nat → Int32 → Option xk} {th : Nat} {x1 : Nat} {x2 : Int32} (C : xx_C p m c b_Master_takeAcknowledgement 3 s args Rn_Master E) (hlk : meth.locks = false) (hr : meth.sig.returnType = none) (hin : meth.name = "takeAcknowledgement") (hrec2 : ∀ {H : Heap} {locs : List Loc} {ls : Array Slot} {K : xk} {th : Nat} {x1 : Nat} {x2 : Int32}, xx_S E K M s H locs → lv_has ls 3 [(0, .ref th), (1, .ref x1), (2, .int x2)] → rec2 K th x1 x2 = some K' → W p l e { frames := 0, cells := 0, slots := 0, locals := 0 } s m args below meth c H locs 0 0 (MQ below (xq_v E K' M) args s 0 0 (xe_A E)) (F0 m 2 ls [])) (X : xx_S E K M s H locs) (hl : lv_has ls 3 [(0, .ref th), (1, .ref x1), (2, .int x2)]) (h : kb_Master_takeAcknowledgement_2 rec2 K th x1 x2 = some K') : W p l e { frames := 0, cells := 0, slots := 0, locals := 0 } s m args below meth c H locs 0 0 (MQ below (xq_v E K' M) args s 0 0 (xe_A E)) (F0 m 2 ls []) := by
  have hx := C.1.1
  have hb := C.1.2.1
  unfold kb_Master_takeAcknowledgement_2 at h
  refine lv_iload_n hx hb d_Master_takeAcknowledgement_2 rfl (lv_at hl 2 rfl) ?_
  refine lv_aload_n hx hb d_Master_takeAcknowledgement_3 rfl (lv_at hl 0 rfl) ?_
  replace h := xb h
  obtain ⟨v1, hv, h⟩ := h
  refine xr_gi C X xc_Master (by decide) 11 (by decide) (by decide) rfl m_301 d_Master_takeAcknowledgement_4 hv ?_
  refine lv_icmp_ge (tgt := 55) hx hb d_Master_takeAcknowledgement_7 (by decide +kernel) (fun hc => ?_) (fun hc => ?_)
  · rw [if_pos hc] at h
    obtain rfl := Option.some.inj h
    exact xr_vret C X hlk hr d_Master_takeAcknowledgement_55 (Nat.le_of_ble_eq_true rfl) (Nat.le_of_ble_eq_true rfl)
  · rw [if_neg hc] at h
    refine lv_aload_n hx hb d_Master_takeAcknowledgement_10 rfl (lv_at hl 0 rfl) ?_
    replace h := xb h
    obtain ⟨v2, hv, h⟩ := h
    refine xr_gr C X xc_Master (by decide) 10 (by decide) (by decide) rfl m_48 d_Master_takeAcknowledgement_11 hv ?_
    refine lv_iload_n hx hb d_Master_takeAcknowledgement_14 rfl (lv_at hl 2 rfl) ?_
    replace h := xb h
    obtain ⟨a4, rfl, h⟩ := h
    replace h := xb h
    obtain ⟨v3, hv, h⟩ := h
    refine xr_aald C X 10 (by decide) rfl rfl d_Master_takeAcknowledgement_15 hv ?_
    replace h := xb h
    obtain ⟨a5, rfl, h⟩ := h
    replace h := xb h
    obtain ⟨v6, hv, h⟩ := h
    refine xr_gr C X xc_OnWay (by decide) 0 (by decide) (by decide) rfl m_287 d_Master_takeAcknowledgement_16 hv ?_
    replace h := xb h
    obtain ⟨a7, rfl, h⟩ := h
    replace h := xb h
    obtain ⟨v8, hv, h⟩ := h
    refine xr_gi C X xc_Entry (by decide) 0 (by decide) (by decide) rfl m_288 d_Master_takeAcknowledgement_19 hv ?_
    refine lv_aload_n hx hb d_Master_takeAcknowledgement_22 rfl (lv_at hl 1 rfl) ?_
    replace h := xb h
    obtain ⟨v9, hv, h⟩ := h
    refine xr_gi C X xc_Message (by decide) 3 (by decide) (by decide) rfl m_252 d_Master_takeAcknowledgement_23 hv ?_
    refine lv_icmp_ne (tgt := 49) hx hb d_Master_takeAcknowledgement_26 (by decide +kernel) (fun hc => ?_) (fun hc => ?_)
    · rw [if_neg hc] at h
      exact kw_Master_takeAcknowledgement_49 (th := th) (x1 := x1) (x2 := x2) C hlk hr hin hrec2  X (lv_sub hl [0, 1, 2] rfl) h
    · rw [if_pos hc] at h
      refine lv_aload_n hx hb d_Master_takeAcknowledgement_29 rfl (lv_at hl 0 rfl) ?_
      replace h := xb h
      obtain ⟨v10, hv, h⟩ := h
      refine xr_gr C X xc_Master (by decide) 10 (by decide) (by decide) rfl m_48 d_Master_takeAcknowledgement_30 hv ?_
      refine lv_iload_n hx hb d_Master_takeAcknowledgement_33 rfl (lv_at hl 2 rfl) ?_
      replace h := xb h
      obtain ⟨a12, rfl, h⟩ := h
      replace h := xb h
      obtain ⟨v11, hv, h⟩ := h
      refine xr_aald C X 10 (by decide) rfl rfl d_Master_takeAcknowledgement_34 hv ?_
      refine lv_dup hx hb d_Master_takeAcknowledgement_35 (xr_cat _) ?_
      replace h := xb h
      obtain ⟨a13, rfl, h⟩ := h
      replace h := xb h
      obtain ⟨v14, hv, h⟩ := h
      refine xr_gi C X xc_OnWay (by decide) 3 (by decide) (by decide) rfl m_286 d_Master_takeAcknowledgement_36 hv ?_
      refine lv_iconst hx hb d_Master_takeAcknowledgement_39 kn_i_1 ?_
      refine lv_aload_n hx hb d_Master_takeAcknowledgement_40 rfl (lv_at hl 1 rfl) ?_
      replace h := xb h
      obtain ⟨v15, hv, h⟩ := h
      refine xr_gi C X xc_Message (by decide) 1 (by decide) (by decide) rfl m_242 d_Master_takeAcknowledgement_41 hv ?_
      refine lv_ishl hx hb d_Master_takeAcknowledgement_44 ?_
      refine lv_ior hx hb d_Master_takeAcknowledgement_45 ?_
      replace h := xb h
      obtain ⟨K16, hv, h⟩ := h
      refine xr_pi C X xc_OnWay (by decide) 3 (by decide) (by decide) rfl rfl rfl m_286 d_Master_takeAcknowledgement_46 hv (fun H locs X => ?_)
      exact kw_Master_takeAcknowledgement_49 (th := th) (x1 := x1) (x2 := x2) C hlk hr hin hrec2  X (lv_sub hl [0, 1, 2] rfl) h
theorem kw_Master_takeAcknowledgement_2 (C : xx_C p m c b_Master_takeAcknowledgement 3 s args Rn_Master E) (hlk : meth.locks = false) (hr : meth.sig.returnType = none) (hin : meth.name = "takeAcknowledgement") : ∀ (n : Nat) {H : Heap} {locs : List Loc} {ls : Array Slot} {K : xk} {th : Nat} {x1 : Nat} {x2 : Int32}, xx_S E K M s H locs → lv_has ls 3 [(0, .ref th), (1, .ref x1), (2, .int x2)] → kf_Master_takeAcknowledgement_2 n K th x1 x2 = some K' → W p l e { frames := 0, cells := 0, slots := 0, locals := 0 } s m args below meth c H locs 0 0 (MQ below (xq_v E K' M) args s 0 0 (xe_A E)) (F0 m 2 ls []) := by
  intro n
  induction n with
  | zero => intro H locs ls K th x1 x2 X hl h; exact nomatch (show (none : Option xk) = some _ from h)
  | succ n ih => intro H locs ls K th x1 x2 X hl h; exact kwb_Master_takeAcknowledgement_2 C hlk hr hin ih X hl h
set_option maxHeartbeats 4000000 in
set_option maxRecDepth 100000 in
theorem kw_Master_takeAcknowledgement_0 {th : Nat} {x1 : Nat} (C : xx_C p m c b_Master_takeAcknowledgement 3 s args Rn_Master E) (hlk : meth.locks = false) (hr : meth.sig.returnType = none) (hin : meth.name = "takeAcknowledgement") (X : xx_S E K M s H locs) (hl : lv_has ls 3 [(0, .ref th), (1, .ref x1)]) (h : kf_Master_takeAcknowledgement_0 K th x1 = some K') : W p l e { frames := 0, cells := 0, slots := 0, locals := 0 } s m args below meth c H locs 0 0 (MQ below (xq_v E K' M) args s 0 0 (xe_A E)) (F0 m 0 ls []) := by
  have hx := C.1.1
  have hb := C.1.2.1
  unfold kf_Master_takeAcknowledgement_0 at h
  refine lv_iconst hx hb d_Master_takeAcknowledgement_0 kn_i_0 ?_
  refine lv_istore_n hx hb d_Master_takeAcknowledgement_1 rfl hl (by decide) rfl (fun ls hl => ?_)
  have hl : lv_has ls 3 [(2, .int (0 : Int32)), (0, .ref th), (1, .ref x1)] := hl
  exact kw_Master_takeAcknowledgement_2 C hlk hr hin 1000 X (lv_sub hl [1, 2, 0] rfl) h
theorem kc_Master_takeAcknowledgement (l : Launch) (E : xe) {th : Nat} {x1 : Nat} (h : kf_Master_takeAcknowledgement_0 K th x1 = some K') : Met l y_Master_takeAcknowledgement (Cond.code y_Master_takeAcknowledgement b_Master_takeAcknowledgement 3 none :: w_all) { frames := 0, cells := 0, slots := 0, locals := 0 } (va_Pc [.ref th, .ref x1] (fun U => xx_B E K M U)) (xq_v E K' M) 0 0 (xe_A E) :=
  xr_met (by decide) (Nat.le_of_ble_eq_true rfl) fun p e s m below meth c ls C X hlk hr hin hl => kw_Master_takeAcknowledgement_0 C hlk hr hin X hl h
set_option maxHeartbeats 4000000 in
set_option maxRecDepth 100000 in
theorem kwb_Master_removeOldestOnWay_12 {rec12 : xk → Nat → Int32 → Int32 → Option xk} {th : Nat} {x1 : Int32} {x2 : Int32} (C : xx_C p m c b_Master_removeOldestOnWay 3 s args Rn_Master E) (hlk : meth.locks = false) (hr : meth.sig.returnType = none) (hin : meth.name = "removeOldestOnWay") (hrec12 : ∀ {H : Heap} {locs : List Loc} {ls : Array Slot} {K : xk} {th : Nat} {x1 : Int32} {x2 : Int32}, xx_S E K M s H locs → lv_has ls 3 [(0, .ref th), (1, .int x1), (2, .int x2)] → rec12 K th x1 x2 = some K' → W p l e { frames := 0, cells := 0, slots := 0, locals := 0 } s m args below meth c H locs 0 0 (MQ below (xq_v E K' M) args s 0 0 (xe_A E)) (F0 m 12 ls [])) (X : xx_S E K M s H locs) (hl : lv_has ls 3 [(0, .ref th), (1, .int x1), (2, .int x2)]) (h : kb_Master_removeOldestOnWay_12 rec12 K th x1 x2 = some K') : W p l e { frames := 0, cells := 0, slots := 0, locals := 0 } s m args below meth c H locs 0 0 (MQ below (xq_v E K' M) args s 0 0 (xe_A E)) (F0 m 12 ls []) := by
  have hx := C.1.1
  have hb := C.1.2.1
  unfold kb_Master_removeOldestOnWay_12 at h
  refine lv_iload_n hx hb d_Master_removeOldestOnWay_12 rfl (lv_at hl 2 rfl) ?_
  refine lv_aload_n hx hb d_Master_removeOldestOnWay_13 rfl (lv_at hl 0 rfl) ?_
  replace h := xb h
  obtain ⟨v1, hv, h⟩ := h
  refine xr_gi C X xc_Master (by decide) 11 (by decide) (by decide) rfl m_301 d_Master_removeOldestOnWay_14 hv ?_
  refine lv_icmp_ge (tgt := 40) hx hb d_Master_removeOldestOnWay_17 (by decide +kernel) (fun hc => ?_) (fun hc => ?_)
  · rw [if_pos hc] at h
    obtain rfl := Option.some.inj h
    exact xr_vret C X hlk hr d_Master_removeOldestOnWay_40 (Nat.le_of_ble_eq_true rfl) (Nat.le_of_ble_eq_true rfl)
  · rw [if_neg hc] at h
    refine lv_aload_n hx hb d_Master_removeOldestOnWay_20 rfl (lv_at hl 0 rfl) ?_
    replace h := xb h
    obtain ⟨v2, hv, h⟩ := h
    refine xr_gr C X xc_Master (by decide) 10 (by decide) (by decide) rfl m_48 d_Master_removeOldestOnWay_21 hv ?_
    refine lv_iload_n hx hb d_Master_removeOldestOnWay_24 rfl (lv_at hl 2 rfl) ?_
    refine lv_aload_n hx hb d_Master_removeOldestOnWay_25 rfl (lv_at hl 0 rfl) ?_
    replace h := xb h
    obtain ⟨v3, hv, h⟩ := h
    refine xr_gr C X xc_Master (by decide) 10 (by decide) (by decide) rfl m_48 d_Master_removeOldestOnWay_26 hv ?_
    refine lv_iload_n hx hb d_Master_removeOldestOnWay_29 rfl (lv_at hl 2 rfl) ?_
    refine lv_iload_n hx hb d_Master_removeOldestOnWay_30 rfl (lv_at hl 1 rfl) ?_
    refine lv_iadd hx hb d_Master_removeOldestOnWay_31 ?_
    replace h := xb h
    obtain ⟨a5, rfl, h⟩ := h
    replace h := xb h
    obtain ⟨v4, hv, h⟩ := h
    refine xr_aald C X 10 (by decide) rfl rfl d_Master_removeOldestOnWay_32 hv ?_
    replace h := xb h
    obtain ⟨a7, rfl, h⟩ := h
    replace h := xb h
    obtain ⟨K6, hv, h⟩ := h
    refine xr_aast (v := v4) C X 10 7 (by decide) (by decide) rfl rfl rfl d_Master_removeOldestOnWay_33 hv (fun H locs X => ?_)
    refine lv_iinc (k := 2) (v := (x2 + (1 : Int32))) hx hb d_Master_removeOldestOnWay_34 hl rfl (congrArg (fun y : Int32 => x2 + y) kn_i_1) (by decide) rfl (fun ls hl => ?_)
    have hl : lv_has ls 3 [(2, .int (x2 + (1 : Int32))), (0, .ref th), (1, .int x1)] := hl
    refine lv_goto (tgt := 12) hx hb d_Master_removeOldestOnWay_37 (by decide +kernel) ?_
    exact hrec12 (th := th) (x1 := x1) (x2 := (x2 + (1 : Int32))) X (lv_sub hl [1, 2, 0] rfl) h
theorem kw_Master_removeOldestOnWay_12 (C : xx_C p m c b_Master_removeOldestOnWay 3 s args Rn_Master E) (hlk : meth.locks = false) (hr : meth.sig.returnType = none) (hin : meth.name = "removeOldestOnWay") : ∀ (n : Nat) {H : Heap} {locs : List Loc} {ls : Array Slot} {K : xk} {th : Nat} {x1 : Int32} {x2 : Int32}, xx_S E K M s H locs → lv_has ls 3 [(0, .ref th), (1, .int x1), (2, .int x2)] → kf_Master_removeOldestOnWay_12 n K th x1 x2 = some K' → W p l e { frames := 0, cells := 0, slots := 0, locals := 0 } s m args below meth c H locs 0 0 (MQ below (xq_v E K' M) args s 0 0 (xe_A E)) (F0 m 12 ls []) := by
  intro n
  induction n with
  | zero => intro H locs ls K th x1 x2 X hl h; exact nomatch (show (none : Option xk) = some _ from h)
  | succ n ih => intro H locs ls K th x1 x2 X hl h; exact kwb_Master_removeOldestOnWay_12 C hlk hr hin ih X hl h
set_option maxHeartbeats 4000000 in
set_option maxRecDepth 100000 in
theorem kw_Master_removeOldestOnWay_0 {th : Nat} {x1 : Int32} (C : xx_C p m c b_Master_removeOldestOnWay 3 s args Rn_Master E) (hlk : meth.locks = false) (hr : meth.sig.returnType = none) (hin : meth.name = "removeOldestOnWay") (X : xx_S E K M s H locs) (hl : lv_has ls 3 [(0, .ref th), (1, .int x1)]) (h : kf_Master_removeOldestOnWay_0 K th x1 = some K') : W p l e { frames := 0, cells := 0, slots := 0, locals := 0 } s m args below meth c H locs 0 0 (MQ below (xq_v E K' M) args s 0 0 (xe_A E)) (F0 m 0 ls []) := by
  have hx := C.1.1
  have hb := C.1.2.1
  unfold kf_Master_removeOldestOnWay_0 at h
  refine lv_aload_n hx hb d_Master_removeOldestOnWay_0 rfl (lv_at hl 0 rfl) ?_
  refine lv_dup hx hb d_Master_removeOldestOnWay_1 rfl ?_
  replace h := xb h
  obtain ⟨v1, hv, h⟩ := h
  refine xr_gi C X xc_Master (by decide) 11 (by decide) (by decide) rfl m_301 d_Master_removeOldestOnWay_2 hv ?_
  refine lv_iload_n hx hb d_Master_removeOldestOnWay_5 rfl (lv_at hl 1 rfl) ?_
  refine lv_isub hx hb d_Master_removeOldestOnWay_6 ?_
  replace h := xb h
  obtain ⟨K2, hv, h⟩ := h
  refine xr_pi C X xc_Master (by decide) 11 (by decide) (by decide) rfl rfl rfl m_301 d_Master_removeOldestOnWay_7 hv (fun H locs X => ?_)
  refine lv_iconst hx hb d_Master_removeOldestOnWay_10 kn_i_0 ?_
  refine lv_istore_n hx hb d_Master_removeOldestOnWay_11 rfl hl (by decide) rfl (fun ls hl => ?_)
  have hl : lv_has ls 3 [(2, .int (0 : Int32)), (0, .ref th), (1, .int x1)] := hl
  exact kw_Master_removeOldestOnWay_12 C hlk hr hin 1000 X (lv_sub hl [1, 2, 0] rfl) h
theorem kc_Master_removeOldestOnWay (l : Launch) (E : xe) {th : Nat} {x1 : Int32} (h : kf_Master_removeOldestOnWay_0 K th x1 = some K') : Met l y_Master_removeOldestOnWay (Cond.code y_Master_removeOldestOnWay b_Master_removeOldestOnWay 3 none :: w_all) { frames := 0, cells := 0, slots := 0, locals := 0 } (va_Pc [.ref th, .int x1] (fun U => xx_B E K M U)) (xq_v E K' M) 0 0 (xe_A E) :=
  xr_met (by decide) (Nat.le_of_ble_eq_true rfl) fun p e s m below meth c ls C X hlk hr hin hl => kw_Master_removeOldestOnWay_0 C hlk hr hin X hl h
set_option maxHeartbeats 4000000 in
set_option maxRecDepth 100000 in
theorem kw_Master_settle_65 {rec2 : xk → Nat → Nat → Int32 → Option xk} {th : Nat} {x1 : Nat} {x2 : Int32} (C : xx_C p m c b_Master_settle 4 s args Rn_Master E) (hlk : meth.locks = false) (hr : meth.sig.returnType = none) (hin : meth.name = "settle") (hrec2 : ∀ {H : Heap} {locs : List Loc} {ls : Array Slot} {K : xk} {th : Nat} {x1 : Nat} {x2 : Int32}, xx_S E K M s H locs → lv_has ls 4 [(0, .ref th), (1, .ref x1), (2, .int x2)] → rec2 K th x1 x2 = some K' → W p l e { frames := 3, cells := 0, slots := 0, locals := 72 } s m args below meth c H locs 0 0 (MQ below (xq_v E K' M) args s 0 0 (xe_A E)) (F0 m 2 ls [])) (X : xx_S E K M s H locs) (hl : lv_has ls 4 [(0, .ref th), (1, .ref x1), (2, .int x2)]) (h : kf_Master_settle_65 rec2 K th x1 x2 = some K') : W p l e { frames := 3, cells := 0, slots := 0, locals := 72 } s m args below meth c H locs 0 0 (MQ below (xq_v E K' M) args s 0 0 (xe_A E)) (F0 m 65 ls []) := by
  have hx := C.1.1
  have hb := C.1.2.1
  unfold kf_Master_settle_65 at h
  refine lv_iinc (k := 2) (v := (x2 + (1 : Int32))) hx hb d_Master_settle_65 hl rfl (congrArg (fun y : Int32 => x2 + y) kn_i_1) (by decide) rfl (fun ls hl => ?_)
  have hl : lv_has ls 4 [(2, .int (x2 + (1 : Int32))), (0, .ref th), (1, .ref x1)] := hl
  refine lv_goto (tgt := 2) hx hb d_Master_settle_68 (by decide +kernel) ?_
  exact hrec2 (th := th) (x1 := x1) (x2 := (x2 + (1 : Int32))) X (lv_sub hl [1, 2, 0] rfl) h
set_option maxHeartbeats 4000000 in
set_option maxRecDepth 100000 in
theorem kw_Master_settle_71 {th : Nat} {x2 : Int32} (C : xx_C p m c b_Master_settle 4 s args Rn_Master E) (hlk : meth.locks = false) (hr : meth.sig.returnType = none) (hin : meth.name = "settle") (X : xx_S E K M s H locs) (hl : lv_has ls 4 [(0, .ref th), (2, .int x2)]) (h : kf_Master_settle_71 K th x2 = some K') : W p l e { frames := 3, cells := 0, slots := 0, locals := 72 } s m args below meth c H locs 0 0 (MQ below (xq_v E K' M) args s 0 0 (xe_A E)) (F0 m 71 ls []) := by
  have hx := C.1.1
  have hb := C.1.2.1
  unfold kf_Master_settle_71 at h
  refine lv_aload_n hx hb d_Master_settle_71 rfl (lv_at hl 0 rfl) ?_
  refine lv_iload_n hx hb d_Master_settle_72 rfl (lv_at hl 1 rfl) ?_
  replace h := xb h
  obtain ⟨_, hO2, h⟩ := h
  replace h := xb h
  obtain ⟨K1, hv, h⟩ := h
  refine xr_kv (va_runV (As := [.int x2]) (rest := []) C.1 (kc_Master_removeOldestOnWay l E hv) (cwV 1 C.1.2.2.2.2 (xw_V m_320 m_321 m_322 m_93 m_323) rfl rfl rfl ky_Master_removeOldestOnWay ⟨(Nat.le_of_ble_eq_true rfl), (Nat.le_of_ble_eq_true rfl)⟩) (xr_pV C X xc_Master.1 (xk_Xo (xOk hO2) (by decide))) rfl rfl hl.1 rfl (lv_room (Nat.le_of_ble_eq_true rfl)) d_Master_settle_73 ⟨(Nat.le_of_ble_eq_true rfl), (Nat.le_of_ble_eq_true rfl)⟩) X (fun H locs X => ?_)
  obtain rfl := Option.some.inj h
  exact xr_vret C X hlk hr d_Master_settle_76 (Nat.le_of_ble_eq_true rfl) (Nat.le_of_ble_eq_true rfl)
set_option maxHeartbeats 4000000 in
set_option maxRecDepth 100000 in
theorem kwb_Master_settle_2 {rec2 : xk → Nat → Nat → Int32 → Option xk} {th : Nat} {x1 : Nat} {x2 : Int32} (C : xx_C p m c b_Master_settle 4 s args Rn_Master E) (hlk : meth.locks = false) (hr : meth.sig.returnType = none) (hin : meth.name = "settle") (hrec2 : ∀ {H : Heap} {locs : List Loc} {ls : Array Slot} {K : xk} {th : Nat} {x1 : Nat} {x2 : Int32}, xx_S E K M s H locs → lv_has ls 4 [(0, .ref th), (1, .ref x1), (2, .int x2)] → rec2 K th x1 x2 = some K' → W p l e { frames := 3, cells := 0, slots := 0, locals := 72 } s m args below meth c H locs 0 0 (MQ below (xq_v E K' M) args s 0 0 (xe_A E)) (F0 m 2 ls [])) (X : xx_S E K M s H locs) (hl : lv_has ls 4 [(0, .ref th), (1, .ref x1), (2, .int x2)]) (h : kb_Master_settle_2 rec2 K th x1 x2 = some K') : W p l e { frames := 3, cells := 0, slots := 0, locals := 72 } s m args below meth c H locs 0 0 (MQ below (xq_v E K' M) args s 0 0 (xe_A E)) (F0 m 2 ls []) := by
  have hx := C.1.1
  have hb := C.1.2.1
  unfold kb_Master_settle_2 at h
  refine lv_iload_n hx hb d_Master_settle_2 rfl (lv_at hl 2 rfl) ?_
  refine lv_aload_n hx hb d_Master_settle_3 rfl (lv_at hl 0 rfl) ?_
  replace h := xb h
  obtain ⟨v1, hv, h⟩ := h
  refine xr_gi C X xc_Master (by decide) 11 (by decide) (by decide) rfl m_301 d_Master_settle_4 hv ?_
  refine lv_icmp_ge (tgt := 71) hx hb d_Master_settle_7 (by decide +kernel) (fun hc => ?_) (fun hc => ?_)
  · rw [if_pos hc] at h
    exact kw_Master_settle_71 (th := th) (x2 := x2) C hlk hr hin  X (lv_sub hl [0, 2] rfl) h
  · rw [if_neg hc] at h
    refine lv_aload_n hx hb d_Master_settle_10 rfl (lv_at hl 0 rfl) ?_
    replace h := xb h
    obtain ⟨v2, hv, h⟩ := h
    refine xr_gr C X xc_Master (by decide) 10 (by decide) (by decide) rfl m_48 d_Master_settle_11 hv ?_
    refine lv_iload_n hx hb d_Master_settle_14 rfl (lv_at hl 2 rfl) ?_
    replace h := xb h
    obtain ⟨a4, rfl, h⟩ := h
    replace h := xb h
    obtain ⟨v3, hv, h⟩ := h
    refine xr_aald C X 10 (by decide) rfl rfl d_Master_settle_15 hv ?_
    replace h := xb h
    obtain ⟨a5, rfl, h⟩ := h
    replace h := xb h
    obtain ⟨v6, hv, h⟩ := h
    refine xr_gi C X xc_OnWay (by decide) 3 (by decide) (by decide) rfl m_286 d_Master_settle_16 hv ?_
    refine lv_aload_n hx hb d_Master_settle_19 rfl (lv_at hl 0 rfl) ?_
    replace h := xb h
    obtain ⟨v7, hv, h⟩ := h
    refine xr_gi C X xc_Master (by decide) 1 (by decide) (by decide) rfl m_50 d_Master_settle_20 hv ?_
    refine lv_icmp_ne (tgt := 71) hx hb d_Master_settle_23 (by decide +kernel) (fun hc => ?_) (fun hc => ?_)
    · rw [if_neg hc] at h
      exact kw_Master_settle_71 (th := th) (x2 := x2) C hlk hr hin  X (lv_sub hl [0, 2] rfl) h
    · rw [if_pos hc] at h
      refine lv_aload_n hx hb d_Master_settle_26 rfl (lv_at hl 0 rfl) ?_
      replace h := xb h
      obtain ⟨v8, hv, h⟩ := h
      refine xr_gr C X xc_Master (by decide) 10 (by decide) (by decide) rfl m_48 d_Master_settle_27 hv ?_
      refine lv_iload_n hx hb d_Master_settle_30 rfl (lv_at hl 2 rfl) ?_
      replace h := xb h
      obtain ⟨a10, rfl, h⟩ := h
      replace h := xb h
      obtain ⟨v9, hv, h⟩ := h
      refine xr_aald C X 10 (by decide) rfl rfl d_Master_settle_31 hv ?_
      refine xr_astore_n hx hb d_Master_settle_32 rfl hl (by decide) rfl (fun ls hl => ?_)
      have hl : lv_has ls 4 [(3, va_rf v9), (0, .ref th), (1, .ref x1), (2, .int x2)] := hl
      refine lv_aload_n hx hb d_Master_settle_33 rfl (lv_at hl 1 rfl) ?_
      refine xr_aload_n hx hb d_Master_settle_34 rfl (lv_at hl 0 rfl) ?_
      replace h := xb h
      obtain ⟨a11, rfl, h⟩ := h
      replace h := xb h
      obtain ⟨v12, hv, h⟩ := h
      refine xr_gr C X xc_OnWay (by decide) 0 (by decide) (by decide) rfl m_287 d_Master_settle_35 hv ?_
      replace h := xb h
      obtain ⟨a13, rfl, h⟩ := h
      replace h := xb h
      obtain ⟨v14, hv, h⟩ := h
      refine xr_gi C X xc_Entry (by decide) 0 (by decide) (by decide) rfl m_288 d_Master_settle_38 hv ?_
      replace h := xb h
      obtain ⟨K15, hv, h⟩ := h
      refine xr_pi C X xc_Master (by decide) 5 (by decide) (by decide) rfl rfl rfl m_54 d_Master_settle_41 hv (fun H locs X => ?_)
      refine lv_aload_n hx hb d_Master_settle_44 rfl (lv_at hl 1 rfl) ?_
      refine lv_aload_n hx hb d_Master_settle_45 rfl (lv_at hl 0 rfl) ?_
      replace h := xb h
      obtain ⟨v16, hv, h⟩ := h
      refine xr_gi C X xc_OnWay (by decide) 1 (by decide) (by decide) rfl m_318 d_Master_settle_46 hv ?_
      refine lv_aload_n hx hb d_Master_settle_49 rfl (lv_at hl 0 rfl) ?_
      replace h := xb h
      obtain ⟨v17, hv, h⟩ := h
      refine xr_gi C X xc_OnWay (by decide) 2 (by decide) (by decide) rfl m_319 d_Master_settle_50 hv ?_
      refine lv_iconst hx hb d_Master_settle_53 kn_i_4 ?_
      refine lv_aload_n hx hb d_Master_settle_54 rfl (lv_at hl 2 rfl) ?_
      replace h := xb h
      obtain ⟨_, hO19, h⟩ := h
      replace h := xpb h
      obtain ⟨r20, K18, hv, h⟩ := h
      refine xr_kr (va_runV (As := [.int v16, .int v17, .int (4 : Int32), .ref x1]) (rest := []) C.1 (kc_Master_sendResult l E hv) (cwV 4 C.1.2.2.2.2 (xw_V m_310 m_311 m_312 m_93 m_313) rfl rfl rfl ky_Master_sendResult ⟨(Nat.le_of_ble_eq_true rfl), (Nat.le_of_ble_eq_true rfl)⟩) (xr_pV C X xc_Master.1 (xk_Xo (xOk hO19) (by decide))) rfl rfl hl.1 rfl (lv_room (Nat.le_of_ble_eq_true rfl)) d_Master_settle_55 ⟨(Nat.le_of_ble_eq_true rfl), (Nat.le_of_ble_eq_true rfl)⟩) X (fun H locs X => ?_)
      refine lv_aload_n hx hb d_Master_settle_58 rfl (lv_at hl 1 rfl) ?_
      replace h := xb h
      obtain ⟨v21, hv, h⟩ := h
      refine xr_gi C X xc_Master (by decide) 5 (by decide) (by decide) rfl m_54 d_Master_settle_59 hv ?_
      replace h := xb h
      obtain ⟨a22, rfl, h⟩ := h
      replace h := xb h
      obtain ⟨K23, hv, h⟩ := h
      refine xr_pi C X xc_Message (by decide) 3 (by decide) (by decide) rfl rfl rfl m_252 d_Master_settle_62 hv (fun H locs X => ?_)
      exact kw_Master_settle_65 (th := th) (x1 := x1) (x2 := x2) C hlk hr hin hrec2  X (lv_sub hl [1, 2, 3] rfl) h
theorem kw_Master_settle_2 (C : xx_C p m c b_Master_settle 4 s args Rn_Master E) (hlk : meth.locks = false) (hr : meth.sig.returnType = none) (hin : meth.name = "settle") : ∀ (n : Nat) {H : Heap} {locs : List Loc} {ls : Array Slot} {K : xk} {th : Nat} {x1 : Nat} {x2 : Int32}, xx_S E K M s H locs → lv_has ls 4 [(0, .ref th), (1, .ref x1), (2, .int x2)] → kf_Master_settle_2 n K th x1 x2 = some K' → W p l e { frames := 3, cells := 0, slots := 0, locals := 72 } s m args below meth c H locs 0 0 (MQ below (xq_v E K' M) args s 0 0 (xe_A E)) (F0 m 2 ls []) := by
  intro n
  induction n with
  | zero => intro H locs ls K th x1 x2 X hl h; exact nomatch (show (none : Option xk) = some _ from h)
  | succ n ih => intro H locs ls K th x1 x2 X hl h; exact kwb_Master_settle_2 C hlk hr hin ih X hl h
set_option maxHeartbeats 4000000 in
set_option maxRecDepth 100000 in
theorem kw_Master_settle_0 {th : Nat} {x1 : Nat} (C : xx_C p m c b_Master_settle 4 s args Rn_Master E) (hlk : meth.locks = false) (hr : meth.sig.returnType = none) (hin : meth.name = "settle") (X : xx_S E K M s H locs) (hl : lv_has ls 4 [(0, .ref th), (1, .ref x1)]) (h : kf_Master_settle_0 K th x1 = some K') : W p l e { frames := 3, cells := 0, slots := 0, locals := 72 } s m args below meth c H locs 0 0 (MQ below (xq_v E K' M) args s 0 0 (xe_A E)) (F0 m 0 ls []) := by
  have hx := C.1.1
  have hb := C.1.2.1
  unfold kf_Master_settle_0 at h
  refine lv_iconst hx hb d_Master_settle_0 kn_i_0 ?_
  refine lv_istore_n hx hb d_Master_settle_1 rfl hl (by decide) rfl (fun ls hl => ?_)
  have hl : lv_has ls 4 [(2, .int (0 : Int32)), (0, .ref th), (1, .ref x1)] := hl
  exact kw_Master_settle_2 C hlk hr hin 1000 X (lv_sub hl [1, 2, 0] rfl) h
theorem kc_Master_settle (l : Launch) (E : xe) {th : Nat} {x1 : Nat} (h : kf_Master_settle_0 K th x1 = some K') : Met l y_Master_settle (Cond.code y_Master_settle b_Master_settle 4 none :: w_all) { frames := 3, cells := 0, slots := 0, locals := 72 } (va_Pc [.ref th, .ref x1] (fun U => xx_B E K M U)) (xq_v E K' M) 0 0 (xe_A E) :=
  xr_met (by decide) (Nat.le_of_ble_eq_true rfl) fun p e s m below meth c ls C X hlk hr hin hl => kw_Master_settle_0 C hlk hr hin X hl h
set_option maxHeartbeats 4000000 in
set_option maxRecDepth 100000 in
theorem kw_Master_receive_77 (C : xx_C p m c b_Master_receive 3 s args Rn_Master E) (hlk : meth.locks = false) (hr : meth.sig.returnType = none) (hin : meth.name = "receive") (X : xx_S E K M s H locs) (hl : lv_has ls 3 []) (h : kf_Master_receive_77 K = some K') : W p l e { frames := 5, cells := 2, slots := 7, locals := 117 } s m args below meth c H locs 2 7 (MQ below (xq_v E K' M) args s 2 7 (xe_A E)) (F0 m 77 ls []) := by
  have hx := C.1.1
  have hb := C.1.2.1
  unfold kf_Master_receive_77 at h
  obtain rfl := Option.some.inj h
  exact xr_vret C X hlk hr d_Master_receive_77 (Nat.le_of_ble_eq_true rfl) (Nat.le_of_ble_eq_true rfl)
set_option maxHeartbeats 4000000 in
set_option maxRecDepth 100000 in
theorem kw_Master_receive_0 {th : Nat} {x1 : Nat} {x2 : Nat} (C : xx_C p m c b_Master_receive 3 s args Rn_Master E) (hlk : meth.locks = false) (hr : meth.sig.returnType = none) (hin : meth.name = "receive") (X : xx_S E K M s H locs) (hl : lv_has ls 3 [(0, .ref th), (1, .ref x1), (2, .ref x2)]) (h : kf_Master_receive_0 K th x1 x2 = some K') : W p l e { frames := 5, cells := 2, slots := 7, locals := 117 } s m args below meth c H locs 0 0 (MQ below (xq_v E K' M) args s 2 7 (xe_A E)) (F0 m 0 ls []) := by
  have hx := C.1.1
  have hb := C.1.2.1
  unfold kf_Master_receive_0 at h
  refine lv_aload_n hx hb d_Master_receive_0 rfl (lv_at hl 1 rfl) ?_
  replace h := xb h
  obtain ⟨v1, hv, h⟩ := h
  refine xr_gi C X xc_Message (by decide) 0 (by decide) (by decide) rfl m_324 d_Master_receive_1 hv ?_
  by_cases hs1 : v1 = (1 : Int32)
  · rw [if_pos hs1] at h
    refine lv_tableIn (off := 36) (tgt := 40) hx hb d_Master_receive_4 (by rw [hs1]; decide +kernel) (by rw [hs1]; decide +kernel) (by rw [hs1]; decide +kernel) (by decide +kernel) ?_
    refine lv_aload_n hx hb d_Master_receive_40 rfl (lv_at hl 0 rfl) ?_
    refine lv_aload_n hx hb d_Master_receive_41 rfl (lv_at hl 1 rfl) ?_
    refine lv_aload_n hx hb d_Master_receive_42 rfl (lv_at hl 2 rfl) ?_
    replace h := xb h
    obtain ⟨_, hO3, h⟩ := h
    replace h := xb h
    obtain ⟨K2, hv, h⟩ := h
    refine xr_kv (va_runV (As := [.ref x1, .ref x2]) (rest := []) C.1 (kc_Master_openQuestion l E hv) (cwV 2 C.1.2.2.2.2 (xw_V m_325 m_326 m_327 m_93 m_328) rfl rfl rfl ky_Master_openQuestion ⟨(Nat.le_of_ble_eq_true rfl), (Nat.le_of_ble_eq_true rfl)⟩) (xr_pV C X xc_Master.1 (xk_Xo (xOk hO3) (by decide))) rfl rfl hl.1 rfl (lv_room (Nat.le_of_ble_eq_true rfl)) d_Master_receive_43 ⟨(Nat.le_of_ble_eq_true rfl), (Nat.le_of_ble_eq_true rfl)⟩) X (fun H locs X => ?_)
    refine lv_goto (tgt := 77) hx hb d_Master_receive_46 (by decide +kernel) ?_
    refine W.widen (k := 2) (n := 7) (Nat.le_of_ble_eq_true rfl) (Nat.le_of_ble_eq_true rfl) ?_
    exact kw_Master_receive_77 C hlk hr hin  X (lv_sub hl [] rfl) h
  rw [if_neg hs1] at h
  by_cases hs2 : v1 = (2 : Int32)
  · rw [if_pos hs2] at h
    refine lv_tableIn (off := 63) (tgt := 67) hx hb d_Master_receive_4 (by rw [hs2]; decide +kernel) (by rw [hs2]; decide +kernel) (by rw [hs2]; decide +kernel) (by decide +kernel) ?_
    refine lv_aload_n hx hb d_Master_receive_67 rfl (lv_at hl 0 rfl) ?_
    refine lv_aload_n hx hb d_Master_receive_68 rfl (lv_at hl 1 rfl) ?_
    replace h := xb h
    obtain ⟨_, hO5, h⟩ := h
    replace h := xb h
    obtain ⟨K4, hv, h⟩ := h
    refine xr_kv (va_runV (As := [.ref x1]) (rest := []) C.1 (kc_Master_takeAcknowledgement l E hv) (cwV 1 C.1.2.2.2.2 (xw_V m_329 m_330 m_331 m_93 m_332) rfl rfl rfl ky_Master_takeAcknowledgement ⟨(Nat.le_of_ble_eq_true rfl), (Nat.le_of_ble_eq_true rfl)⟩) (xr_pV C X xc_Master.1 (xk_Xo (xOk hO5) (by decide))) rfl rfl hl.1 rfl (lv_room (Nat.le_of_ble_eq_true rfl)) d_Master_receive_69 ⟨(Nat.le_of_ble_eq_true rfl), (Nat.le_of_ble_eq_true rfl)⟩) X (fun H locs X => ?_)
    refine lv_aload_n hx hb d_Master_receive_72 rfl (lv_at hl 0 rfl) ?_
    refine lv_aload_n hx hb d_Master_receive_73 rfl (lv_at hl 2 rfl) ?_
    replace h := xb h
    obtain ⟨_, hO7, h⟩ := h
    replace h := xb h
    obtain ⟨K6, hv, h⟩ := h
    refine xr_kv (va_runV (As := [.ref x2]) (rest := []) C.1 (kc_Master_settle l E hv) (cwV 1 C.1.2.2.2.2 (xw_V m_333 m_334 m_335 m_93 m_336) rfl rfl rfl ky_Master_settle ⟨(Nat.le_of_ble_eq_true rfl), (Nat.le_of_ble_eq_true rfl)⟩) (xr_pV C X xc_Master.1 (xk_Xo (xOk hO7) (by decide))) rfl rfl hl.1 rfl (lv_room (Nat.le_of_ble_eq_true rfl)) d_Master_receive_74 ⟨(Nat.le_of_ble_eq_true rfl), (Nat.le_of_ble_eq_true rfl)⟩) X (fun H locs X => ?_)
    refine W.widen (k := 2) (n := 7) (Nat.le_of_ble_eq_true rfl) (Nat.le_of_ble_eq_true rfl) ?_
    exact kw_Master_receive_77 C hlk hr hin  X (lv_sub hl [] rfl) h
  rw [if_neg hs2] at h
  by_cases hs3 : v1 = (3 : Int32)
  · rw [if_pos hs3] at h
    refine lv_tableIn (off := 45) (tgt := 49) hx hb d_Master_receive_4 (by rw [hs3]; decide +kernel) (by rw [hs3]; decide +kernel) (by rw [hs3]; decide +kernel) (by decide +kernel) ?_
    refine lv_aload_n hx hb d_Master_receive_49 rfl (lv_at hl 0 rfl) ?_
    refine lv_aload_n hx hb d_Master_receive_50 rfl (lv_at hl 1 rfl) ?_
    refine lv_aload_n hx hb d_Master_receive_51 rfl (lv_at hl 2 rfl) ?_
    replace h := xb h
    obtain ⟨_, hO9, h⟩ := h
    replace h := xb h
    obtain ⟨K8, hv, h⟩ := h
    refine xr_kv (va_runV (As := [.ref x1, .ref x2]) (rest := []) C.1 (kc_Master_takeConfirmation l E hv) (cwV 2 C.1.2.2.2.2 (xw_V m_337 m_338 m_339 m_93 m_340) rfl rfl rfl ky_Master_takeConfirmation ⟨(Nat.le_of_ble_eq_true rfl), (Nat.le_of_ble_eq_true rfl)⟩) (xr_pV C X xc_Master.1 (xk_Xo (xOk hO9) (by decide))) rfl rfl hl.1 rfl (lv_room (Nat.le_of_ble_eq_true rfl)) d_Master_receive_52 ⟨(Nat.le_of_ble_eq_true rfl), (Nat.le_of_ble_eq_true rfl)⟩) X (fun H locs X => ?_)
    refine lv_goto (tgt := 77) hx hb d_Master_receive_55 (by decide +kernel) ?_
    refine W.widen (k := 2) (n := 7) (Nat.le_of_ble_eq_true rfl) (Nat.le_of_ble_eq_true rfl) ?_
    exact kw_Master_receive_77 C hlk hr hin  X (lv_sub hl [] rfl) h
  rw [if_neg hs3] at h
  by_cases hs4 : v1 = (4 : Int32)
  · rw [if_pos hs4] at h
    refine lv_tableIn (off := 63) (tgt := 67) hx hb d_Master_receive_4 (by rw [hs4]; decide +kernel) (by rw [hs4]; decide +kernel) (by rw [hs4]; decide +kernel) (by decide +kernel) ?_
    refine lv_aload_n hx hb d_Master_receive_67 rfl (lv_at hl 0 rfl) ?_
    refine lv_aload_n hx hb d_Master_receive_68 rfl (lv_at hl 1 rfl) ?_
    replace h := xb h
    obtain ⟨_, hO11, h⟩ := h
    replace h := xb h
    obtain ⟨K10, hv, h⟩ := h
    refine xr_kv (va_runV (As := [.ref x1]) (rest := []) C.1 (kc_Master_takeAcknowledgement l E hv) (cwV 1 C.1.2.2.2.2 (xw_V m_329 m_330 m_331 m_93 m_332) rfl rfl rfl ky_Master_takeAcknowledgement ⟨(Nat.le_of_ble_eq_true rfl), (Nat.le_of_ble_eq_true rfl)⟩) (xr_pV C X xc_Master.1 (xk_Xo (xOk hO11) (by decide))) rfl rfl hl.1 rfl (lv_room (Nat.le_of_ble_eq_true rfl)) d_Master_receive_69 ⟨(Nat.le_of_ble_eq_true rfl), (Nat.le_of_ble_eq_true rfl)⟩) X (fun H locs X => ?_)
    refine lv_aload_n hx hb d_Master_receive_72 rfl (lv_at hl 0 rfl) ?_
    refine lv_aload_n hx hb d_Master_receive_73 rfl (lv_at hl 2 rfl) ?_
    replace h := xb h
    obtain ⟨_, hO13, h⟩ := h
    replace h := xb h
    obtain ⟨K12, hv, h⟩ := h
    refine xr_kv (va_runV (As := [.ref x2]) (rest := []) C.1 (kc_Master_settle l E hv) (cwV 1 C.1.2.2.2.2 (xw_V m_333 m_334 m_335 m_93 m_336) rfl rfl rfl ky_Master_settle ⟨(Nat.le_of_ble_eq_true rfl), (Nat.le_of_ble_eq_true rfl)⟩) (xr_pV C X xc_Master.1 (xk_Xo (xOk hO13) (by decide))) rfl rfl hl.1 rfl (lv_room (Nat.le_of_ble_eq_true rfl)) d_Master_receive_74 ⟨(Nat.le_of_ble_eq_true rfl), (Nat.le_of_ble_eq_true rfl)⟩) X (fun H locs X => ?_)
    refine W.widen (k := 2) (n := 7) (Nat.le_of_ble_eq_true rfl) (Nat.le_of_ble_eq_true rfl) ?_
    exact kw_Master_receive_77 C hlk hr hin  X (lv_sub hl [] rfl) h
  rw [if_neg hs4] at h
  by_cases hs5 : v1 = (5 : Int32)
  · rw [if_pos hs5] at h
    refine lv_tableIn (off := 54) (tgt := 58) hx hb d_Master_receive_4 (by rw [hs5]; decide +kernel) (by rw [hs5]; decide +kernel) (by rw [hs5]; decide +kernel) (by decide +kernel) ?_
    refine lv_aload_n hx hb d_Master_receive_58 rfl (lv_at hl 0 rfl) ?_
    refine lv_aload_n hx hb d_Master_receive_59 rfl (lv_at hl 1 rfl) ?_
    refine lv_aload_n hx hb d_Master_receive_60 rfl (lv_at hl 2 rfl) ?_
    replace h := xb h
    obtain ⟨_, hO15, h⟩ := h
    replace h := xb h
    obtain ⟨K14, hv, h⟩ := h
    refine xr_kv (va_runV (As := [.ref x1, .ref x2]) (rest := []) C.1 (kc_Master_decide l E hv) (cwV 2 C.1.2.2.2.2 (xw_V m_341 m_342 m_343 m_93 m_344) rfl rfl rfl ky_Master_decide ⟨(Nat.le_of_ble_eq_true rfl), (Nat.le_of_ble_eq_true rfl)⟩) (xr_pV C X xc_Master.1 (xk_Xo (xOk hO15) (by decide))) rfl rfl hl.1 rfl (lv_room (Nat.le_of_ble_eq_true rfl)) d_Master_receive_61 ⟨(Nat.le_of_ble_eq_true rfl), (Nat.le_of_ble_eq_true rfl)⟩) X (fun H locs X => ?_)
    refine lv_goto (tgt := 77) hx hb d_Master_receive_64 (by decide +kernel) ?_
    exact kw_Master_receive_77 C hlk hr hin  X (lv_sub hl [] rfl) h
  rw [if_neg hs5] at h
  have nhs1 := lv_neT hs1 (a := 1) (by decide +kernel)
  have nhs2 := lv_neT hs2 (a := 2) (by decide +kernel)
  have nhs3 := lv_neT hs3 (a := 3) (by decide +kernel)
  have nhs4 := lv_neT hs4 (a := 4) (by decide +kernel)
  have nhs5 := lv_neT hs5 (a := 5) (by decide +kernel)
  refine lv_tableOut (tgt := 67) hx hb d_Master_receive_4 (by omega) (by decide +kernel) ?_
  refine lv_aload_n hx hb d_Master_receive_67 rfl (lv_at hl 0 rfl) ?_
  refine lv_aload_n hx hb d_Master_receive_68 rfl (lv_at hl 1 rfl) ?_
  replace h := xb h
  obtain ⟨_, hO17, h⟩ := h
  replace h := xb h
  obtain ⟨K16, hv, h⟩ := h
  refine xr_kv (va_runV (As := [.ref x1]) (rest := []) C.1 (kc_Master_takeAcknowledgement l E hv) (cwV 1 C.1.2.2.2.2 (xw_V m_329 m_330 m_331 m_93 m_332) rfl rfl rfl ky_Master_takeAcknowledgement ⟨(Nat.le_of_ble_eq_true rfl), (Nat.le_of_ble_eq_true rfl)⟩) (xr_pV C X xc_Master.1 (xk_Xo (xOk hO17) (by decide))) rfl rfl hl.1 rfl (lv_room (Nat.le_of_ble_eq_true rfl)) d_Master_receive_69 ⟨(Nat.le_of_ble_eq_true rfl), (Nat.le_of_ble_eq_true rfl)⟩) X (fun H locs X => ?_)
  refine lv_aload_n hx hb d_Master_receive_72 rfl (lv_at hl 0 rfl) ?_
  refine lv_aload_n hx hb d_Master_receive_73 rfl (lv_at hl 2 rfl) ?_
  replace h := xb h
  obtain ⟨_, hO19, h⟩ := h
  replace h := xb h
  obtain ⟨K18, hv, h⟩ := h
  refine xr_kv (va_runV (As := [.ref x2]) (rest := []) C.1 (kc_Master_settle l E hv) (cwV 1 C.1.2.2.2.2 (xw_V m_333 m_334 m_335 m_93 m_336) rfl rfl rfl ky_Master_settle ⟨(Nat.le_of_ble_eq_true rfl), (Nat.le_of_ble_eq_true rfl)⟩) (xr_pV C X xc_Master.1 (xk_Xo (xOk hO19) (by decide))) rfl rfl hl.1 rfl (lv_room (Nat.le_of_ble_eq_true rfl)) d_Master_receive_74 ⟨(Nat.le_of_ble_eq_true rfl), (Nat.le_of_ble_eq_true rfl)⟩) X (fun H locs X => ?_)
  refine W.widen (k := 2) (n := 7) (Nat.le_of_ble_eq_true rfl) (Nat.le_of_ble_eq_true rfl) ?_
  exact kw_Master_receive_77 C hlk hr hin  X (lv_sub hl [] rfl) h
theorem kc_Master_receive (l : Launch) (E : xe) {th : Nat} {x1 : Nat} {x2 : Nat} (h : kf_Master_receive_0 K th x1 x2 = some K') : Met l y_Master_receive (Cond.code y_Master_receive b_Master_receive 3 none :: w_all) { frames := 5, cells := 2, slots := 7, locals := 117 } (va_Pc [.ref th, .ref x1, .ref x2] (fun U => xx_B E K M U)) (xq_v E K' M) 2 7 (xe_A E) :=
  xr_met (by decide) (Nat.le_of_ble_eq_true rfl) fun p e s m below meth c ls C X hlk hr hin hl => kw_Master_receive_0 C hlk hr hin X hl h
end KW8
