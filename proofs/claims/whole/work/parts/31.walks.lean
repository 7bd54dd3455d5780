/-! EpochStore$Storage.goBackTo(I)V -/
def kf_Storage_goBackTo_38 (K : xk) (th : Nat) (x1 : Int32) : Option xk := (xI K 10 3 th).bind fun v1 => (xIs K 10 3 th (if x1 < v1 then x1 else v1)).bind fun K2 => some K2
def kb_Storage_goBackTo_90000 (rec90000 : xk → Nat → Int32 → Option xk) (K : xk) (th : Nat) (x1 : Int32) : Option xk := (xI K 10 5 th).bind fun v1 => if v1 ≤ 0 then (kf_Storage_goBackTo_38 K th x1) else (xR K 10 4 th).bind fun v2 => (xI K 10 5 th).bind fun v3 => (v2).bind fun a5 => (xRa K 8 a5 (v3 - (1 : Int32))).bind fun v4 => (v4).bind fun a6 => (xI K 3 0 a6).bind fun v7 => if v7 ≤ x1 then (kf_Storage_goBackTo_38 K th x1) else (xI K 10 5 th).bind fun v8 => (xIs K 10 5 th (v8 - (1 : Int32))).bind fun K9 => rec90000 K9 th x1
def kf_Storage_goBackTo_90000 : Nat → xk → Nat → Int32 → Option xk
  | 0 => fun _ _ _ => none
  | n + 1 => kb_Storage_goBackTo_90000 (kf_Storage_goBackTo_90000 n)
def kf_Storage_goBackTo_0 (K : xk) (th : Nat) (x1 : Int32) : Option xk := kf_Storage_goBackTo_90000 1000 K th x1
/-! EpochStore$Log.firstAbove(I)LEpochStore$Entry; -/
def kb_Log_firstAbove_2 (rec2 : xk → Nat → Int32 → Int32 → Option (Option Nat × xk)) (K : xk) (th : Nat) (x1 : Int32) (x2 : Int32) : Option (Option Nat × xk) := (xI K 9 6 th).bind fun v1 => if v1 ≤ x2 then (some (none, K)) else (xR K 9 5 th).bind fun v2 => (v2).bind fun a4 => (xRa K 8 a4 x2).bind fun v3 => (v3).bind fun a5 => (xI K 3 0 a5).bind fun v6 => if v6 ≤ x1 then (rec2 K th x1 (x2 + (1 : Int32))) else (xR K 9 5 th).bind fun v7 => (v7).bind fun a9 => (xRa K 8 a9 x2).bind fun v8 => some (v8, K)
def kf_Log_firstAbove_2 : Nat → xk → Nat → Int32 → Int32 → Option (Option Nat × xk)
  | 0 => fun _ _ _ _ => none
  | n + 1 => kb_Log_firstAbove_2 (kf_Log_firstAbove_2 n)
def kf_Log_firstAbove_0 (K : xk) (th : Nat) (x1 : Int32) : Option (Option Nat × xk) := kf_Log_firstAbove_2 1000 K th x1 (0 : Int32)
/-! EpochStore$Storage.keep(LEpochStore$Entry;)V -/
def kf_Storage_keep_0 (K : xk) (th : Nat) (x1 : Nat) : Option xk := (xR K 3 2 x1).bind fun v1 => (v1).bind fun a2 => (xI K 2 0 a2).bind fun v3 => (xI K 10 0 th).bind fun v4 => if (v3 &&& v4) = 0 then (some K) else (xI K 10 5 th).bind fun v5 => if (100 : Int32) ≤ v5 then (some K) else (xR K 10 4 th).bind fun v6 => (xI K 10 5 th).bind fun v7 => (v6).bind fun a9 => (xRt K 8 3 a9 v7 (some x1)).bind fun K8 => (xI K8 10 5 th).bind fun v10 => (xIs K8 10 5 th (v10 + (1 : Int32))).bind fun K11 => some K11
/-! EpochStore$Storage.advanceFrom(LEpochStore$Log;)I -/
def kf_Storage_advanceFrom_61 (K : xk) (th : Nat) (x1 : Nat) : Option (Int32 × xk) := (xI K 10 3 th).bind fun v1 => (xO K 9 x1).bind fun _ => xp (kf_Log_firstAbove_0 K x1 v1) fun r4 K2 => if r4 = none then ((xI K2 10 3 th).bind fun v5 => (xI K2 9 3 x1).bind fun v6 => (xIs K2 10 3 th (if v5 < v6 then v6 else v5)).bind fun K7 => (xI K7 10 3 th).bind fun v8 => some (v8, K7)) else (r4).bind fun a9 => (xO K2 10 th).bind fun _ => (kf_Storage_keep_0 K2 th a9).bind fun K10 => (xI K10 3 0 a9).bind fun v12 => (xIs K10 10 3 th v12).bind fun K13 => (xI K13 10 3 th).bind fun v14 => some (v14, K13)
def kf_Storage_advanceFrom_53 (K : xk) (th : Nat) (x1 : Nat) : Option (Int32 × xk) := (xI K 9 2 x1).bind fun v1 => (xIs K 10 2 th v1).bind fun K2 => kf_Storage_advanceFrom_61 K2 th x1
def kf_Storage_advanceFrom_0 (K : xk) (th : Nat) (x1 : Nat) : Option (Int32 × xk) := (xI K 10 1 th).bind fun v1 => if v1 = 0 then (some ((-1 : Int32), K)) else (xI K 9 1 x1).bind fun v2 => if v2 = 0 then (some ((-1 : Int32), K)) else (xI K 9 2 x1).bind fun v3 => (xI K 10 2 th).bind fun v4 => if v4 ≤ v3 then ((xI K 9 2 x1).bind fun v5 => (xI K 10 2 th).bind fun v6 => if v5 ≤ v6 then (kf_Storage_advanceFrom_61 K th x1) else (xR K 9 4 x1).bind fun v7 => (xI K 10 2 th).bind fun v8 => (v7).bind fun a10 => (xIa K 0 a10 (v8 + (1 : Int32))).bind fun v9 => (xO K 10 th).bind fun _ => (kf_Storage_goBackTo_0 K th v9).bind fun K11 => kf_Storage_advanceFrom_53 K11 th x1) else some ((-1 : Int32), K)
/-! EpochStore.pull(II)I -/
def kf_ES_pull_0 (K : xk) (th : Nat) (x1 : Int32) (x2 : Int32) : Option (Int32 × xk) := xp (kf_ES_isStorage_0 K x1) fun r2 K1 => if r2 = 0 then (some ((-1 : Int32), K1)) else xp (kf_ES_isLog_0 K1 x2) fun r4 K3 => if r4 = 0 then (some ((-1 : Int32), K3)) else (xR K3 0 2 th).bind fun v5 => (v5).bind fun a7 => (xRa K3 4 a7 x1).bind fun v6 => (xR K3 0 1 th).bind fun v8 => (v8).bind fun a10 => (xRa K3 3 a10 x2).bind fun v9 => (v6).bind fun a11 => (v9).bind fun a12 => (xO K3 10 a11).bind fun _ => xp (kf_Storage_advanceFrom_0 K3 a11 a12) fun r15 K13 => some (r15, K13)
/-! EpochStore$Master.pushAgain(LEpochStore$Line;)I -/
def kb_Master_pushAgain_4 (rec4 : xk → Nat → Nat → Int32 → Int32 → Option (Int32 × xk)) (K : xk) (th : Nat) (x1 : Nat) (x2 : Int32) (x3 : Int32) : Option (Int32 × xk) := (xI K 8 11 th).bind fun v1 => if v1 ≤ x3 then (some (x2, K)) else (xR K 8 10 th).bind fun v2 => (v2).bind fun a4 => (xRa K 10 a4 x3).bind fun v3 => (v3).bind fun a5 => (xO K 8 th).bind fun _ => xp (kf_Master_pushToOthers_0 K th a5 x1) fun r8 K6 => rec4 K6 th x1 (x2 + r8) (x3 + (1 : Int32))
def kf_Master_pushAgain_4 : Nat → xk → Nat → Nat → Int32 → Int32 → Option (Int32 × xk)
  | 0 => fun _ _ _ _ _ => none
  | n + 1 => kb_Master_pushAgain_4 (kf_Master_pushAgain_4 n)
def kf_Master_pushAgain_0 (K : xk) (th : Nat) (x1 : Nat) : Option (Int32 × xk) := kf_Master_pushAgain_4 1000 K th x1 (0 : Int32) (0 : Int32)
/-! EpochStore.push(I)I -/
def kf_ES_push_0 (K : xk) (th : Nat) (x1 : Int32) : Option (Int32 × xk) := (xO K 0 th).bind fun _ => xp (kf_ES_isMaster_0 K th x1) fun r3 K1 => if r3 = 0 then (some ((-1 : Int32), K1)) else (xR K1 0 4 th).bind fun v4 => (v4).bind fun a6 => (xRa K1 6 a6 x1).bind fun v5 => (xR K1 0 5 th).bind fun v7 => (v5).bind fun a8 => (v7).bind fun a9 => (xO K1 8 a8).bind fun _ => xp (kf_Master_pushAgain_0 K1 a8 a9) fun r12 K10 => some (r12, K10)
/-! EpochStore.raiseCoordinators(I)V -/
def kb_ES_raiseCoordinators_2 (rec2 : xk → Nat → Int32 → Int32 → Option xk) (K : xk) (th : Nat) (x1 : Int32) (x2 : Int32) : Option xk := if (3 : Int32) ≤ x2 then (some K) else (xR K 0 0 th).bind fun v1 => (v1).bind fun a3 => (xRa K 2 a3 x2).bind fun v2 => (v2).bind fun a4 => (xI K 1 0 a4).bind fun v5 => if v5 = 0 then (rec2 K th x1 (x2 + (1 : Int32))) else (xR K 0 0 th).bind fun v6 => (v6).bind fun a8 => (xRa K 2 a8 x2).bind fun v7 => (v7).bind fun a9 => (xIs K 1 1 a9 x1).bind fun K10 => rec2 K10 th x1 (x2 + (1 : Int32))
def kf_ES_raiseCoordinators_2 : Nat → xk → Nat → Int32 → Int32 → Option xk
  | 0 => fun _ _ _ _ => none
  | n + 1 => kb_ES_raiseCoordinators_2 (kf_ES_raiseCoordinators_2 n)
def kf_ES_raiseCoordinators_0 (K : xk) (th : Nat) (x1 : Int32) : Option xk := kf_ES_raiseCoordinators_2 1000 K th x1 (0 : Int32)
/-! EpochStore$Log.copyFrom(LEpochStore$Log;)V -/
def kb_Log_copyFrom_38 (rec38 : xk → Nat → Nat → Int32 → Option xk) (K : xk) (th : Nat) (x1 : Nat) (x2 : Int32) : Option xk := if (9 : Int32) < x2 then (some K) else (xR K 9 4 th).bind fun v1 => (xR K 9 4 x1).bind fun v2 => (v2).bind fun a4 => (xIa K 0 a4 x2).bind fun v3 => (v1).bind fun a6 => (xIt K 0 a6 x2 v3).bind fun K5 => rec38 K5 th x1 (x2 + (1 : Int32))
def kf_Log_copyFrom_38 : Nat → xk → Nat → Nat → Int32 → Option xk
  | 0 => fun _ _ _ _ => none
  | n + 1 => kb_Log_copyFrom_38 (kf_Log_copyFrom_38 n)
def kb_Log_copyFrom_2 (rec2 : xk → Nat → Nat → Int32 → Option xk) (K : xk) (th : Nat) (x1 : Nat) (x2 : Int32) : Option xk := (xI K 9 6 x1).bind fun v1 => if v1 ≤ x2 then ((xI K 9 6 x1).bind fun v2 => (xIs K 9 6 th v2).bind fun K3 => kf_Log_copyFrom_38 1000 K3 th x1 (0 : Int32)) else (xR K 9 5 th).bind fun v4 => (xR K 9 5 x1).bind fun v5 => (v5).bind fun a7 => (xRa K 8 a7 x2).bind fun v6 => (v4).bind fun a9 => (xRt K 8 3 a9 x2 v6).bind fun K8 => rec2 K8 th x1 (x2 + (1 : Int32))
def kf_Log_copyFrom_2 : Nat → xk → Nat → Nat → Int32 → Option xk
  | 0 => fun _ _ _ _ => none
  | n + 1 => kb_Log_copyFrom_2 (kf_Log_copyFrom_2 n)
def kf_Log_copyFrom_0 (K : xk) (th : Nat) (x1 : Nat) : Option xk := kf_Log_copyFrom_2 1000 K th x1 (0 : Int32)
/-! EpochStore$Log.enter(III)V -/
def kf_Log_enter_0 (K : xk) (th : Nat) (x1 : Int32) (x2 : Int32) (x3 : Int32) : Option xk := (xIs K 9 2 th x1).bind fun K1 => (xR K1 9 4 th).bind fun v2 => (v2).bind fun a4 => (xIt K1 0 a4 x1 x2).bind fun K3 => (xIs K3 9 3 th x3).bind fun K5 => some K5
section KW10
variable {p : Program} {l : Launch} {e : Env} {s : State} {m : MethodId} {args : Array Value} {below : List Frame} {meth : Method} {c : Code} {H : Heap} {locs : List Loc} {ls : Array Slot} {E : xe} {K K' : xk} {M M' : xm}
set_option maxHeartbeats 4000000 in
set_option maxRecDepth 100000 in
theorem kw_Storage_goBackTo_38 {th : Nat} {x1 : Int32} (C : xx_C p m c b_Storage_goBackTo 2 s args Rn_Storage E) (hlk : meth.locks = false) (hr : meth.sig.returnType = none) (hin : meth.name = "goBackTo") (X : xx_S E K M s H locs) (hl : lv_has ls 2 [(0, .ref th), (1, .int x1)]) (h : kf_Storage_goBackTo_38 K th x1 = some K') : W p l e { frames := 1, cells := 0, slots := 0, locals := 21 } s m args below meth c H locs 0 0 (MQ below (xq_v E K' M) args s 0 0 (xe_A E)) (F0 m 38 ls []) := by
  have hx := C.1.1
  have hb := C.1.2.1
  unfold kf_Storage_goBackTo_38 at h
  refine lv_aload_n hx hb d_Storage_goBackTo_38 rfl (lv_at hl 0 rfl) ?_
  refine lv_aload_n hx hb d_Storage_goBackTo_39 rfl (lv_at hl 0 rfl) ?_
  replace h := xb h
  obtain ⟨v1, hv, h⟩ := h
  refine xr_gi C X xc_Storage (by decide) 3 (by decide) (by decide) rfl m_26 d_Storage_goBackTo_40 hv ?_
  refine lv_iload_n hx hb d_Storage_goBackTo_43 rfl (lv_at hl 1 rfl) ?_
  refine va_mmin hx hb (C.1.2.2.1.trans hl.1.symm) C.1.2.2.2.1 (C.1.2.2.2.2 _ m_394) (C.1.2.2.2.2 _ m_395) (C.1.2.2.2.2 _ m_101) (C.1.2.2.2.2 _ m_396) (Nat.le_of_ble_eq_true rfl) (Nat.le_of_ble_eq_true rfl) (Nat.le_of_ble_eq_true rfl) (Nat.le_of_ble_eq_true rfl) d_Storage_goBackTo_44 ?_
  replace h := xb h
  obtain ⟨K2, hv, h⟩ := h
  refine xr_pi C X xc_Storage (by decide) 3 (by decide) (by decide) rfl rfl rfl m_26 d_Storage_goBackTo_47 hv (fun H locs X => ?_)
  obtain rfl := Option.some.inj h
  exact xr_vret C X hlk hr d_Storage_goBackTo_50 (Nat.le_of_ble_eq_true rfl) (Nat.le_of_ble_eq_true rfl)
set_option maxHeartbeats 4000000 in
set_option maxRecDepth 100000 in
theorem kwb_Storage_goBackTo_90000 {rec90000 : xk → Nat → Int32 → Option xk} {th : Nat} {x1 : Int32} (C : xx_C p m c b_Storage_goBackTo 2 s args Rn_Storage E) (hlk : meth.locks = false) (hr : meth.sig.returnType = none) (hin : meth.name = "goBackTo") (hrec90000 : ∀ {H : Heap} {locs : List Loc} {ls : Array Slot} {K : xk} {th : Nat} {x1 : Int32}, xx_S E K M s H locs → lv_has ls 2 [(0, .ref th), (1, .int x1)] → rec90000 K th x1 = some K' → W p l e { frames := 1, cells := 0, slots := 0, locals := 21 } s m args below meth c H locs 0 0 (MQ below (xq_v E K' M) args s 0 0 (xe_A E)) (F0 m 0 ls [])) (X : xx_S E K M s H locs) (hl : lv_has ls 2 [(0, .ref th), (1, .int x1)]) (h : kb_Storage_goBackTo_90000 rec90000 K th x1 = some K') : W p l e { frames := 1, cells := 0, slots := 0, locals := 21 } s m args below meth c H locs 0 0 (MQ below (xq_v E K' M) args s 0 0 (xe_A E)) (F0 m 0 ls []) := by
  have hx := C.1.1
  have hb := C.1.2.1
  unfold kb_Storage_goBackTo_90000 at h
  refine lv_aload_n hx hb d_Storage_goBackTo_0 rfl (lv_at hl 0 rfl) ?_
  replace h := xb h
  obtain ⟨v1, hv, h⟩ := h
  refine xr_gi C X xc_Storage (by decide) 5 (by decide) (by decide) rfl m_147 d_Storage_goBackTo_1 hv ?_
  refine lv_if_le (tgt := 38) hx hb d_Storage_goBackTo_4 (by decide +kernel) (fun hc => ?_) (fun hc => ?_)
  · rw [if_pos hc] at h
    exact kw_Storage_goBackTo_38 (th := th) (x1 := x1) C hlk hr hin  X (lv_sub hl [0, 1] rfl) h
  · rw [if_neg hc] at h
    refine lv_aload_n hx hb d_Storage_goBackTo_7 rfl (lv_at hl 0 rfl) ?_
    replace h := xb h
    obtain ⟨v2, hv, h⟩ := h
    refine xr_gr C X xc_Storage (by decide) 4 (by decide) (by decide) rfl m_28 d_Storage_goBackTo_8 hv ?_
    refine lv_aload_n hx hb d_Storage_goBackTo_11 rfl (lv_at hl 0 rfl) ?_
    replace h := xb h
    obtain ⟨v3, hv, h⟩ := h
    refine xr_gi C X xc_Storage (by decide) 5 (by decide) (by decide) rfl m_147 d_Storage_goBackTo_12 hv ?_
    refine lv_iconst hx hb d_Storage_goBackTo_15 kn_i_1 ?_
    refine lv_isub hx hb d_Storage_goBackTo_16 ?_
    replace h := xb h
    obtain ⟨a5, rfl, h⟩ := h
    replace h := xb h
    obtain ⟨v4, hv, h⟩ := h
    refine xr_aald C X 8 (by decide) rfl rfl d_Storage_goBackTo_17 hv ?_
    replace h := xb h
    obtain ⟨a6, rfl, h⟩ := h
    replace h := xb h
    obtain ⟨v7, hv, h⟩ := h
    refine xr_gi C X xc_Entry (by decide) 0 (by decide) (by decide) rfl m_150 d_Storage_goBackTo_18 hv ?_
    refine lv_iload_n hx hb d_Storage_goBackTo_21 rfl (lv_at hl 1 rfl) ?_
    refine lv_icmp_le (tgt := 38) hx hb d_Storage_goBackTo_22 (by decide +kernel) (fun hc => ?_) (fun hc => ?_)
    · rw [if_pos hc] at h
      exact kw_Storage_goBackTo_38 (th := th) (x1 := x1) C hlk hr hin  X (lv_sub hl [0, 1] rfl) h
    · rw [if_neg hc] at h
      refine lv_aload_n hx hb d_Storage_goBackTo_25 rfl (lv_at hl 0 rfl) ?_
      refine lv_dup hx hb d_Storage_goBackTo_26 rfl ?_
      replace h := xb h
      obtain ⟨v8, hv, h⟩ := h
      refine xr_gi C X xc_Storage (by decide) 5 (by decide) (by decide) rfl m_147 d_Storage_goBackTo_27 hv ?_
      refine lv_iconst hx hb d_Storage_goBackTo_30 kn_i_1 ?_
      refine lv_isub hx hb d_Storage_goBackTo_31 ?_
      replace h := xb h
      obtain ⟨K9, hv, h⟩ := h
      refine xr_pi C X xc_Storage (by decide) 5 (by decide) (by decide) rfl rfl rfl m_147 d_Storage_goBackTo_32 hv (fun H locs X => ?_)
      refine lv_goto (tgt := 0) hx hb d_Storage_goBackTo_35 (by decide +kernel) ?_
      exact hrec90000 (th := th) (x1 := x1) X (lv_sub hl [0, 1] rfl) h
theorem kw_Storage_goBackTo_90000 (C : xx_C p m c b_Storage_goBackTo 2 s args Rn_Storage E) (hlk : meth.locks = false) (hr : meth.sig.returnType = none) (hin : meth.name = "goBackTo") : ∀ (n : Nat) {H : Heap} {locs : List Loc} {ls : Array Slot} {K : xk} {th : Nat} {x1 : Int32}, xx_S E K M s H locs → lv_has ls 2 [(0, .ref th), (1, .int x1)] → kf_Storage_goBackTo_90000 n K th x1 = some K' → W p l e { frames := 1, cells := 0, slots := 0, locals := 21 } s m args below meth c H locs 0 0 (MQ below (xq_v E K' M) args s 0 0 (xe_A E)) (F0 m 0 ls []) := by
  intro n
  induction n with
  | zero => intro H locs ls K th x1 X hl h; exact nomatch (show (none : Option xk) = some _ from h)
  | succ n ih => intro H locs ls K th x1 X hl h; exact kwb_Storage_goBackTo_90000 C hlk hr hin ih X hl h
set_option maxHeartbeats 4000000 in
set_option maxRecDepth 100000 in
theorem kw_Storage_goBackTo_0 {th : Nat} {x1 : Int32} (C : xx_C p m c b_Storage_goBackTo 2 s args Rn_Storage E) (hlk : meth.locks = false) (hr : meth.sig.returnType = none) (hin : meth.name = "goBackTo") (X : xx_S E K M s H locs) (hl : lv_has ls 2 [(0, .ref th), (1, .int x1)]) (h : kf_Storage_goBackTo_0 K th x1 = some K') : W p l e { frames := 1, cells := 0, slots := 0, locals := 21 } s m args below meth c H locs 0 0 (MQ below (xq_v E K' M) args s 0 0 (xe_A E)) (F0 m 0 ls []) := by
  have hx := C.1.1
  have hb := C.1.2.1
  unfold kf_Storage_goBackTo_0 at h
  exact kw_Storage_goBackTo_90000 C hlk hr hin 1000 X (lv_sub hl [0, 1] rfl) h
theorem kc_Storage_goBackTo (l : Launch) (E : xe) {th : Nat} {x1 : Int32} (h : kf_Storage_goBackTo_0 K th x1 = some K') : Met l y_Storage_goBackTo (Cond.code y_Storage_goBackTo b_Storage_goBackTo 2 none :: w_all) { frames := 1, cells := 0, slots := 0, locals := 21 } (va_Pc [.ref th, .int x1] (fun U => xx_B E K M U)) (xq_v E K' M) 0 0 (xe_A E) :=
  xr_met (by decide) (Nat.le_of_ble_eq_true rfl) fun p e s m below meth c ls C X hlk hr hin hl => kw_Storage_goBackTo_0 C hlk hr hin X hl h
set_option maxHeartbeats 4000000 in
set_option maxRecDepth 100000 in
theorem kwb_Log_firstAbove_2 {rec2 : xk → Nat → Int32 → Int32 → Option (Option Nat × xk)} {th : Nat} {x1 : Int32} {x2 : Int32} {r : Option Nat} (C : xx_C p m c b_Log_firstAbove 3 s args Rn_Log E) (hlk : meth.locks = false) (hr : meth.sig.returnType = (some (.object "EpochStore$Entry"))) (hin : meth.name = "firstAbove") (hrec2 : ∀ {H : Heap} {locs : List Loc} {ls : Array Slot} {K : xk} {th : Nat} {x1 : Int32} {x2 : Int32}, xx_S E K M s H locs → lv_has ls 3 [(0, .ref th), (1, .int x1), (2, .int x2)] → rec2 K th x1 x2 = some (r, K') → W p l e { frames := 0, cells := 0, slots := 0, locals := 0 } s m args below meth c H locs 0 0 (MQ below (xq_r E K' M r) args s 0 0 (xe_A E)) (F0 m 2 ls [])) (X : xx_S E K M s H locs) (hl : lv_has ls 3 [(0, .ref th), (1, .int x1), (2, .int x2)]) (h : kb_Log_firstAbove_2 rec2 K th x1 x2 = some (r, K')) : W p l e { frames := 0, cells := 0, slots := 0, locals := 0 } s m args below meth c H locs 0 0 (MQ below (xq_r E K' M r) args s 0 0 (xe_A E)) (F0 m 2 ls []) := by
  have hx := C.1.1
  have hb := C.1.2.1
  unfold kb_Log_firstAbove_2 at h
  refine lv_iload_n hx hb d_Log_firstAbove_2 rfl (lv_at hl 2 rfl) ?_
  refine lv_aload_n hx hb d_Log_firstAbove_3 rfl (lv_at hl 0 rfl) ?_
  replace h := xb h
  obtain ⟨v1, hv, h⟩ := h
  refine xr_gi C X xc_Log (by decide) 6 (by decide) (by decide) rfl m_220 d_Log_firstAbove_4 hv ?_
  refine lv_icmp_ge (tgt := 36) hx hb d_Log_firstAbove_7 (by decide +kernel) (fun hc => ?_) (fun hc => ?_)
  · rw [if_pos hc] at h
    refine lv_null hx hb d_Log_firstAbove_36 ?_
    refine W.eq (g2 := F0 m 37 ls [va_rf none]) rfl ?_
    obtain ⟨rfl, rfl⟩ := Prod.mk.inj (Option.some.inj h)
    exact xr_aret C X hlk hr d_Log_firstAbove_37 rfl (Nat.le_of_ble_eq_true rfl) (Nat.le_of_ble_eq_true rfl)
  · rw [if_neg hc] at h
    refine lv_aload_n hx hb d_Log_firstAbove_10 rfl (lv_at hl 0 rfl) ?_
    replace h := xb h
    obtain ⟨v2, hv, h⟩ := h
    refine xr_gr C X xc_Log (by decide) 5 (by decide) (by decide) rfl m_21 d_Log_firstAbove_11 hv ?_
    refine lv_iload_n hx hb d_Log_firstAbove_14 rfl (lv_at hl 2 rfl) ?_
    replace h := xb h
    obtain ⟨a4, rfl, h⟩ := h
    replace h := xb h
    obtain ⟨v3, hv, h⟩ := h
    refine xr_aald C X 8 (by decide) rfl rfl d_Log_firstAbove_15 hv ?_
    replace h := xb h
    obtain ⟨a5, rfl, h⟩ := h
    replace h := xb h
    obtain ⟨v6, hv, h⟩ := h
    refine xr_gi C X xc_Entry (by decide) 0 (by decide) (by decide) rfl m_221 d_Log_firstAbove_16 hv ?_
    refine lv_iload_n hx hb d_Log_firstAbove_19 rfl (lv_at hl 1 rfl) ?_
    refine lv_icmp_le (tgt := 30) hx hb d_Log_firstAbove_20 (by decide +kernel) (fun hc => ?_) (fun hc => ?_)
    · rw [if_pos hc] at h
      refine lv_iinc (k := 2) (v := (x2 + (1 : Int32))) hx hb d_Log_firstAbove_30 hl rfl (congrArg (fun y : Int32 => x2 + y) kn_i_1) (by decide) rfl (fun ls hl => ?_)
      have hl : lv_has ls 3 [(2, .int (x2 + (1 : Int32))), (0, .ref th), (1, .int x1)] := hl
      refine lv_goto (tgt := 2) hx hb d_Log_firstAbove_33 (by decide +kernel) ?_
      exact hrec2 (th := th) (x1 := x1) (x2 := (x2 + (1 : Int32))) X (lv_sub hl [1, 2, 0] rfl) h
    · rw [if_neg hc] at h
      refine lv_aload_n hx hb d_Log_firstAbove_23 rfl (lv_at hl 0 rfl) ?_
      replace h := xb h
      obtain ⟨v7, hv, h⟩ := h
      refine xr_gr C X xc_Log (by decide) 5 (by decide) (by decide) rfl m_21 d_Log_firstAbove_24 hv ?_
      refine lv_iload_n hx hb d_Log_firstAbove_27 rfl (lv_at hl 2 rfl) ?_
      replace h := xb h
      obtain ⟨a9, rfl, h⟩ := h
      replace h := xb h
      obtain ⟨v8, hv, h⟩ := h
      refine xr_aald C X 8 (by decide) rfl rfl d_Log_firstAbove_28 hv ?_
      obtain ⟨rfl, rfl⟩ := Prod.mk.inj (Option.some.inj h)
      exact xr_aret C X hlk hr d_Log_firstAbove_29 rfl (Nat.le_of_ble_eq_true rfl) (Nat.le_of_ble_eq_true rfl)
theorem kw_Log_firstAbove_2 {r : Option Nat} (C : xx_C p m c b_Log_firstAbove 3 s args Rn_Log E) (hlk : meth.locks = false) (hr : meth.sig.returnType = (some (.object "EpochStore$Entry"))) (hin : meth.name = "firstAbove") : ∀ (n : Nat) {H : Heap} {locs : List Loc} {ls : Array Slot} {K : xk} {th : Nat} {x1 : Int32} {x2 : Int32}, xx_S E K M s H locs → lv_has ls 3 [(0, .ref th), (1, .int x1), (2, .int x2)] → kf_Log_firstAbove_2 n K th x1 x2 = some (r, K') → W p l e { frames := 0, cells := 0, slots := 0, locals := 0 } s m args below meth c H locs 0 0 (MQ below (xq_r E K' M r) args s 0 0 (xe_A E)) (F0 m 2 ls []) := by
  intro n
  induction n with
  | zero => intro H locs ls K th x1 x2 X hl h; exact nomatch (show (none : Option (Option Nat × xk)) = some _ from h)
  | succ n ih => intro H locs ls K th x1 x2 X hl h; exact kwb_Log_firstAbove_2 C hlk hr hin ih X hl h
set_option maxHeartbeats 4000000 in
set_option maxRecDepth 100000 in
theorem kw_Log_firstAbove_0 {th : Nat} {x1 : Int32} {r : Option Nat} (C : xx_C p m c b_Log_firstAbove 3 s args Rn_Log E) (hlk : meth.locks = false) (hr : meth.sig.returnType = (some (.object "EpochStore$Entry"))) (hin : meth.name = "firstAbove") (X : xx_S E K M s H locs) (hl : lv_has ls 3 [(0, .ref th), (1, .int x1)]) (h : kf_Log_firstAbove_0 K th x1 = some (r, K')) : W p l e { frames := 0, cells := 0, slots := 0, locals := 0 } s m args below meth c H locs 0 0 (MQ below (xq_r E K' M r) args s 0 0 (xe_A E)) (F0 m 0 ls []) := by
  have hx := C.1.1
  have hb := C.1.2.1
  unfold kf_Log_firstAbove_0 at h
  refine lv_iconst hx hb d_Log_firstAbove_0 kn_i_0 ?_
  refine lv_istore_n hx hb d_Log_firstAbove_1 rfl hl (by decide) rfl (fun ls hl => ?_)
  have hl : lv_has ls 3 [(2, .int (0 : Int32)), (0, .ref th), (1, .int x1)] := hl
  exact kw_Log_firstAbove_2 C hlk hr hin 1000 X (lv_sub hl [1, 2, 0] rfl) h
theorem kc_Log_firstAbove (l : Launch) (E : xe) {th : Nat} {x1 : Int32} {r : Option Nat} (h : kf_Log_firstAbove_0 K th x1 = some (r, K')) : Met l y_Log_firstAbove (Cond.code y_Log_firstAbove b_Log_firstAbove 3 (some (.object "EpochStore$Entry")) :: w_all) { frames := 0, cells := 0, slots := 0, locals := 0 } (va_Pc [.ref th, .int x1] (fun U => xx_B E K M U)) (xq_r E K' M r) 0 0 (xe_A E) :=
  xr_met (by decide) (Nat.le_of_ble_eq_true rfl) fun p e s m below meth c ls C X hlk hr hin hl => kw_Log_firstAbove_0 C hlk hr hin X hl h
set_option maxHeartbeats 4000000 in
set_option maxRecDepth 100000 in
theorem kw_Storage_keep_0 {th : Nat} {x1 : Nat} (C : xx_C p m c b_Storage_keep 2 s args Rn_Storage E) (hlk : meth.locks = false) (hr : meth.sig.returnType = none) (hin : meth.name = "keep") (X : xx_S E K M s H locs) (hl : lv_has ls 2 [(0, .ref th), (1, .ref x1)]) (h : kf_Storage_keep_0 K th x1 = some K') : W p l e { frames := 0, cells := 0, slots := 0, locals := 0 } s m args below meth c H locs 0 0 (MQ below (xq_v E K' M) args s 0 0 (xe_A E)) (F0 m 0 ls []) := by
  have hx := C.1.1
  have hb := C.1.2.1
  unfold kf_Storage_keep_0 at h
  refine lv_aload_n hx hb d_Storage_keep_0 rfl (lv_at hl 1 rfl) ?_
  replace h := xb h
  obtain ⟨v1, hv, h⟩ := h
  refine xr_gr C X xc_Entry (by decide) 2 (by decide) (by decide) rfl m_151 d_Storage_keep_1 hv ?_
  replace h := xb h
  obtain ⟨a2, rfl, h⟩ := h
  replace h := xb h
  obtain ⟨v3, hv, h⟩ := h
  refine xr_gi C X xc_Writes (by decide) 0 (by decide) (by decide) rfl m_397 d_Storage_keep_4 hv ?_
  refine lv_aload_n hx hb d_Storage_keep_7 rfl (lv_at hl 0 rfl) ?_
  replace h := xb h
  obtain ⟨v4, hv, h⟩ := h
  refine xr_gi C X xc_Storage (by decide) 0 (by decide) (by decide) rfl m_29 d_Storage_keep_8 hv ?_
  refine lv_iand hx hb d_Storage_keep_11 ?_
  refine lv_if_eq (tgt := 44) hx hb d_Storage_keep_12 (by decide +kernel) (fun hc => ?_) (fun hc => ?_)
  · rw [if_pos hc] at h
    obtain rfl := Option.some.inj h
    exact xr_vret C X hlk hr d_Storage_keep_44 (Nat.le_of_ble_eq_true rfl) (Nat.le_of_ble_eq_true rfl)
  · rw [if_neg hc] at h
    refine lv_aload_n hx hb d_Storage_keep_15 rfl (lv_at hl 0 rfl) ?_
    replace h := xb h
    obtain ⟨v5, hv, h⟩ := h
    refine xr_gi C X xc_Storage (by decide) 5 (by decide) (by decide) rfl m_147 d_Storage_keep_16 hv ?_
    refine lv_bipush hx hb d_Storage_keep_19 kn_b_100 ?_
    refine lv_icmp_ge (tgt := 44) hx hb d_Storage_keep_21 (by decide +kernel) (fun hc => ?_) (fun hc => ?_)
    · rw [if_pos hc] at h
      obtain rfl := Option.some.inj h
      exact xr_vret C X hlk hr d_Storage_keep_44 (Nat.le_of_ble_eq_true rfl) (Nat.le_of_ble_eq_true rfl)
    · rw [if_neg hc] at h
      refine lv_aload_n hx hb d_Storage_keep_24 rfl (lv_at hl 0 rfl) ?_
      replace h := xb h
      obtain ⟨v6, hv, h⟩ := h
      refine xr_gr C X xc_Storage (by decide) 4 (by decide) (by decide) rfl m_28 d_Storage_keep_25 hv ?_
      refine lv_aload_n hx hb d_Storage_keep_28 rfl (lv_at hl 0 rfl) ?_
      replace h := xb h
      obtain ⟨v7, hv, h⟩ := h
      refine xr_gi C X xc_Storage (by decide) 5 (by decide) (by decide) rfl m_147 d_Storage_keep_29 hv ?_
      refine lv_aload_n hx hb d_Storage_keep_32 rfl (lv_at hl 1 rfl) ?_
      replace h := xb h
      obtain ⟨a9, rfl, h⟩ := h
      replace h := xb h
      obtain ⟨K8, hv, h⟩ := h
      refine xr_aast (v := (some x1)) C X 8 3 (by decide) (by decide) rfl rfl rfl d_Storage_keep_33 hv (fun H locs X => ?_)
      refine lv_aload_n hx hb d_Storage_keep_34 rfl (lv_at hl 0 rfl) ?_
      refine lv_dup hx hb d_Storage_keep_35 rfl ?_
      replace h := xb h
      obtain ⟨v10, hv, h⟩ := h
      refine xr_gi C X xc_Storage (by decide) 5 (by decide) (by decide) rfl m_147 d_Storage_keep_36 hv ?_
      refine lv_iconst hx hb d_Storage_keep_39 kn_i_1 ?_
      refine lv_iadd hx hb d_Storage_keep_40 ?_
      replace h := xb h
      obtain ⟨K11, hv, h⟩ := h
      refine xr_pi C X xc_Storage (by decide) 5 (by decide) (by decide) rfl rfl rfl m_147 d_Storage_keep_41 hv (fun H locs X => ?_)
      obtain rfl := Option.some.inj h
      exact xr_vret C X hlk hr d_Storage_keep_44 (Nat.le_of_ble_eq_true rfl) (Nat.le_of_ble_eq_true rfl)
theorem kc_Storage_keep (l : Launch) (E : xe) {th : Nat} {x1 : Nat} (h : kf_Storage_keep_0 K th x1 = some K') : Met l y_Storage_keep (Cond.code y_Storage_keep b_Storage_keep 2 none :: w_all) { frames := 0, cells := 0, slots := 0, locals := 0 } (va_Pc [.ref th, .ref x1] (fun U => xx_B E K M U)) (xq_v E K' M) 0 0 (xe_A E) :=
  xr_met (by decide) (Nat.le_of_ble_eq_true rfl) fun p e s m below meth c ls C X hlk hr hin hl => kw_Storage_keep_0 C hlk hr hin X hl h
set_option maxHeartbeats 4000000 in
set_option maxRecDepth 100000 in
theorem kw_Storage_advanceFrom_61 {th : Nat} {x1 : Nat} {r : Int32} (C : xx_C p m c b_Storage_advanceFrom 3 s args Rn_Storage E) (hlk : meth.locks = false) (hr : meth.sig.returnType = (some .int)) (hin : meth.name = "advanceFrom") (X : xx_S E K M s H locs) (hl : lv_has ls 3 [(0, .ref th), (1, .ref x1)]) (h : kf_Storage_advanceFrom_61 K th x1 = some (r, K')) : W p l e { frames := 2, cells := 0, slots := 0, locals := 42 } s m args below meth c H locs 0 0 (MQ below (xq_i E K' M r) args s 0 0 (xe_A E)) (F0 m 61 ls []) := by
  have hx := C.1.1
  have hb := C.1.2.1
  unfold kf_Storage_advanceFrom_61 at h
  refine lv_aload_n hx hb d_Storage_advanceFrom_61 rfl (lv_at hl 1 rfl) ?_
  refine lv_aload_n hx hb d_Storage_advanceFrom_62 rfl (lv_at hl 0 rfl) ?_
  replace h := xb h
  obtain ⟨v1, hv, h⟩ := h
  refine xr_gi C X xc_Storage (by decide) 3 (by decide) (by decide) rfl m_26 d_Storage_advanceFrom_63 hv ?_
  replace h := xb h
  obtain ⟨_, hO3, h⟩ := h
  replace h := xpb h
  obtain ⟨r4, K2, hv, h⟩ := h
  refine xr_kr (va_runV (As := [.int v1]) (rest := []) C.1 (kc_Log_firstAbove l E hv) (cwV 1 C.1.2.2.2.2 (xw_V m_405 m_406 m_407 m_78 m_408) rfl rfl rfl ky_Log_firstAbove ⟨(Nat.le_of_ble_eq_true rfl), (Nat.le_of_ble_eq_true rfl)⟩) (xr_pV C X xc_Log.1 (xk_Xo (xOk hO3) (by decide))) rfl rfl hl.1 rfl (lv_room (Nat.le_of_ble_eq_true rfl)) d_Storage_advanceFrom_66 ⟨(Nat.le_of_ble_eq_true rfl), (Nat.le_of_ble_eq_true rfl)⟩) X (fun H locs X => ?_)
  refine xr_astore_n hx hb d_Storage_advanceFrom_69 rfl hl (by decide) rfl (fun ls hl => ?_)
  have hl : lv_has ls 3 [(2, va_rf r4), (0, .ref th), (1, .ref x1)] := hl
  refine xr_aload_n hx hb d_Storage_advanceFrom_70 rfl (lv_at hl 0 rfl) ?_
  refine xr_ifnull (v := r4) (tgt := 90) hx hb d_Storage_advanceFrom_71 (by decide +kernel) (fun hc => ?_) (fun hc => ?_)
  · rw [if_pos hc] at h
    refine lv_aload_n hx hb d_Storage_advanceFrom_90 rfl (lv_at hl 1 rfl) ?_
    refine lv_aload_n hx hb d_Storage_advanceFrom_91 rfl (lv_at hl 1 rfl) ?_
    replace h := xb h
    obtain ⟨v5, hv, h⟩ := h
    refine xr_gi C X xc_Storage (by decide) 3 (by decide) (by decide) rfl m_26 d_Storage_advanceFrom_92 hv ?_
    refine lv_aload_n hx hb d_Storage_advanceFrom_95 rfl (lv_at hl 2 rfl) ?_
    replace h := xb h
    obtain ⟨v6, hv, h⟩ := h
    refine xr_gi C X xc_Log (by decide) 3 (by decide) (by decide) rfl m_409 d_Storage_advanceFrom_96 hv ?_
    refine va_mmax hx hb (C.1.2.2.1.trans hl.1.symm) C.1.2.2.2.1 (C.1.2.2.2.2 _ m_410) (C.1.2.2.2.2 _ m_100) (C.1.2.2.2.2 _ m_101) (C.1.2.2.2.2 _ m_102) (Nat.le_of_ble_eq_true rfl) (Nat.le_of_ble_eq_true rfl) (Nat.le_of_ble_eq_true rfl) (Nat.le_of_ble_eq_true rfl) d_Storage_advanceFrom_99 ?_
    replace h := xb h
    obtain ⟨K7, hv, h⟩ := h
    refine xr_pi C X xc_Storage (by decide) 3 (by decide) (by decide) rfl rfl rfl m_26 d_Storage_advanceFrom_102 hv (fun H locs X => ?_)
    refine lv_aload_n hx hb d_Storage_advanceFrom_105 rfl (lv_at hl 1 rfl) ?_
    replace h := xb h
    obtain ⟨v8, hv, h⟩ := h
    refine xr_gi C X xc_Storage (by decide) 3 (by decide) (by decide) rfl m_26 d_Storage_advanceFrom_106 hv ?_
    obtain ⟨rfl, rfl⟩ := Prod.mk.inj (Option.some.inj h)
    exact xr_iret C X hlk hr d_Storage_advanceFrom_109 rfl (Nat.le_of_ble_eq_true rfl) (Nat.le_of_ble_eq_true rfl)
  · rw [if_neg hc] at h
    refine lv_aload_n hx hb d_Storage_advanceFrom_74 rfl (lv_at hl 1 rfl) ?_
    refine xr_aload_n hx hb d_Storage_advanceFrom_75 rfl (lv_at hl 0 rfl) ?_
    replace h := xb h
    obtain ⟨a9, rfl, h⟩ := h
    replace h := xb h
    obtain ⟨_, hO11, h⟩ := h
    replace h := xb h
    obtain ⟨K10, hv, h⟩ := h
    refine xr_kv (va_runV (As := [.ref a9]) (rest := []) C.1 (kc_Storage_keep l E hv) (cwV 1 C.1.2.2.2.2 (xw_V m_411 m_412 m_413 m_83 m_414) rfl rfl rfl ky_Storage_keep ⟨(Nat.le_of_ble_eq_true rfl), (Nat.le_of_ble_eq_true rfl)⟩) (xr_pV C X xc_Storage.1 (xk_Xo (xOk hO11) (by decide))) rfl rfl hl.1 rfl (lv_room (Nat.le_of_ble_eq_true rfl)) d_Storage_advanceFrom_76 ⟨(Nat.le_of_ble_eq_true rfl), (Nat.le_of_ble_eq_true rfl)⟩) X (fun H locs X => ?_)
    refine lv_aload_n hx hb d_Storage_advanceFrom_79 rfl (lv_at hl 1 rfl) ?_
    refine lv_aload_n hx hb d_Storage_advanceFrom_80 rfl (lv_at hl 0 rfl) ?_
    replace h := xb h
    obtain ⟨v12, hv, h⟩ := h
    refine xr_gi C X xc_Entry (by decide) 0 (by decide) (by decide) rfl m_150 d_Storage_advanceFrom_81 hv ?_
    replace h := xb h
    obtain ⟨K13, hv, h⟩ := h
    refine xr_pi C X xc_Storage (by decide) 3 (by decide) (by decide) rfl rfl rfl m_26 d_Storage_advanceFrom_84 hv (fun H locs X => ?_)
    refine lv_goto (tgt := 105) hx hb d_Storage_advanceFrom_87 (by decide +kernel) ?_
    refine lv_aload_n hx hb d_Storage_advanceFrom_105 rfl (lv_at hl 1 rfl) ?_
    replace h := xb h
    obtain ⟨v14, hv, h⟩ := h
    refine xr_gi C X xc_Storage (by decide) 3 (by decide) (by decide) rfl m_26 d_Storage_advanceFrom_106 hv ?_
    obtain ⟨rfl, rfl⟩ := Prod.mk.inj (Option.some.inj h)
    exact xr_iret C X hlk hr d_Storage_advanceFrom_109 rfl (Nat.le_of_ble_eq_true rfl) (Nat.le_of_ble_eq_true rfl)
set_option maxHeartbeats 4000000 in
set_option maxRecDepth 100000 in
theorem kw_Storage_advanceFrom_53 {th : Nat} {x1 : Nat} {r : Int32} (C : xx_C p m c b_Storage_advanceFrom 3 s args Rn_Storage E) (hlk : meth.locks = false) (hr : meth.sig.returnType = (some .int)) (hin : meth.name = "advanceFrom") (X : xx_S E K M s H locs) (hl : lv_has ls 3 [(0, .ref th), (1, .ref x1)]) (h : kf_Storage_advanceFrom_53 K th x1 = some (r, K')) : W p l e { frames := 2, cells := 0, slots := 0, locals := 42 } s m args below meth c H locs 0 0 (MQ below (xq_i E K' M r) args s 0 0 (xe_A E)) (F0 m 53 ls []) := by
  have hx := C.1.1
  have hb := C.1.2.1
  unfold kf_Storage_advanceFrom_53 at h
  refine lv_aload_n hx hb d_Storage_advanceFrom_53 rfl (lv_at hl 0 rfl) ?_
  refine lv_aload_n hx hb d_Storage_advanceFrom_54 rfl (lv_at hl 1 rfl) ?_
  replace h := xb h
  obtain ⟨v1, hv, h⟩ := h
  refine xr_gi C X xc_Log (by decide) 2 (by decide) (by decide) rfl m_399 d_Storage_advanceFrom_55 hv ?_
  replace h := xb h
  obtain ⟨K2, hv, h⟩ := h
  refine xr_pi C X xc_Storage (by decide) 2 (by decide) (by decide) rfl rfl rfl m_25 d_Storage_advanceFrom_58 hv (fun H locs X => ?_)
  exact kw_Storage_advanceFrom_61 (th := th) (x1 := x1) C hlk hr hin  X (lv_sub hl [0, 1] rfl) h
set_option maxHeartbeats 4000000 in
set_option maxRecDepth 100000 in
theorem kw_Storage_advanceFrom_0 {th : Nat} {x1 : Nat} {r : Int32} (C : xx_C p m c b_Storage_advanceFrom 3 s args Rn_Storage E) (hlk : meth.locks = false) (hr : meth.sig.returnType = (some .int)) (hin : meth.name = "advanceFrom") (X : xx_S E K M s H locs) (hl : lv_has ls 3 [(0, .ref th), (1, .ref x1)]) (h : kf_Storage_advanceFrom_0 K th x1 = some (r, K')) : W p l e { frames := 2, cells := 0, slots := 0, locals := 42 } s m args below meth c H locs 0 0 (MQ below (xq_i E K' M r) args s 0 0 (xe_A E)) (F0 m 0 ls []) := by
  have hx := C.1.1
  have hb := C.1.2.1
  unfold kf_Storage_advanceFrom_0 at h
  refine lv_aload_n hx hb d_Storage_advanceFrom_0 rfl (lv_at hl 0 rfl) ?_
  replace h := xb h
  obtain ⟨v1, hv, h⟩ := h
  refine xr_gi C X xc_Storage (by decide) 1 (by decide) (by decide) rfl m_24 d_Storage_advanceFrom_1 hv ?_
  refine lv_if_eq (tgt := 25) hx hb d_Storage_advanceFrom_4 (by decide +kernel) (fun hc => ?_) (fun hc => ?_)
  · rw [if_pos hc] at h
    refine lv_iconst hx hb d_Storage_advanceFrom_25 kn_i_m1 ?_
    obtain ⟨rfl, rfl⟩ := Prod.mk.inj (Option.some.inj h)
    exact xr_iret C X hlk hr d_Storage_advanceFrom_26 rfl (Nat.le_of_ble_eq_true rfl) (Nat.le_of_ble_eq_true rfl)
  · rw [if_neg hc] at h
    refine lv_aload_n hx hb d_Storage_advanceFrom_7 rfl (lv_at hl 1 rfl) ?_
    replace h := xb h
    obtain ⟨v2, hv, h⟩ := h
    refine xr_gi C X xc_Log (by decide) 1 (by decide) (by decide) rfl m_398 d_Storage_advanceFrom_8 hv ?_
    refine lv_if_eq (tgt := 25) hx hb d_Storage_advanceFrom_11 (by decide +kernel) (fun hc => ?_) (fun hc => ?_)
    · rw [if_pos hc] at h
      refine lv_iconst hx hb d_Storage_advanceFrom_25 kn_i_m1 ?_
      obtain ⟨rfl, rfl⟩ := Prod.mk.inj (Option.some.inj h)
      exact xr_iret C X hlk hr d_Storage_advanceFrom_26 rfl (Nat.le_of_ble_eq_true rfl) (Nat.le_of_ble_eq_true rfl)
    · rw [if_neg hc] at h
      refine lv_aload_n hx hb d_Storage_advanceFrom_14 rfl (lv_at hl 1 rfl) ?_
      replace h := xb h
      obtain ⟨v3, hv, h⟩ := h
      refine xr_gi C X xc_Log (by decide) 2 (by decide) (by decide) rfl m_399 d_Storage_advanceFrom_15 hv ?_
      refine lv_aload_n hx hb d_Storage_advanceFrom_18 rfl (lv_at hl 0 rfl) ?_
      replace h := xb h
      obtain ⟨v4, hv, h⟩ := h
      refine xr_gi C X xc_Storage (by decide) 2 (by decide) (by decide) rfl m_25 d_Storage_advanceFrom_19 hv ?_
      refine lv_icmp_ge (tgt := 27) hx hb d_Storage_advanceFrom_22 (by decide +kernel) (fun hc => ?_) (fun hc => ?_)
      · rw [if_pos hc] at h
        refine lv_aload_n hx hb d_Storage_advanceFrom_27 rfl (lv_at hl 1 rfl) ?_
        replace h := xb h
        obtain ⟨v5, hv, h⟩ := h
        refine xr_gi C X xc_Log (by decide) 2 (by decide) (by decide) rfl m_399 d_Storage_advanceFrom_28 hv ?_
        refine lv_aload_n hx hb d_Storage_advanceFrom_31 rfl (lv_at hl 0 rfl) ?_
        replace h := xb h
        obtain ⟨v6, hv, h⟩ := h
        refine xr_gi C X xc_Storage (by decide) 2 (by decide) (by decide) rfl m_25 d_Storage_advanceFrom_32 hv ?_
        refine lv_icmp_le (tgt := 61) hx hb d_Storage_advanceFrom_35 (by decide +kernel) (fun hc => ?_) (fun hc => ?_)
        · rw [if_pos hc] at h
          exact kw_Storage_advanceFrom_61 (th := th) (x1 := x1) C hlk hr hin  X (lv_sub hl [0, 1] rfl) h
        · rw [if_neg hc] at h
          refine lv_aload_n hx hb d_Storage_advanceFrom_38 rfl (lv_at hl 0 rfl) ?_
          refine lv_aload_n hx hb d_Storage_advanceFrom_39 rfl (lv_at hl 1 rfl) ?_
          replace h := xb h
          obtain ⟨v7, hv, h⟩ := h
          refine xr_gr C X xc_Log (by decide) 4 (by decide) (by decide) rfl m_400 d_Storage_advanceFrom_40 hv ?_
          refine lv_aload_n hx hb d_Storage_advanceFrom_43 rfl (lv_at hl 0 rfl) ?_
          replace h := xb h
          obtain ⟨v8, hv, h⟩ := h
          refine xr_gi C X xc_Storage (by decide) 2 (by decide) (by decide) rfl m_25 d_Storage_advanceFrom_44 hv ?_
          refine lv_iconst hx hb d_Storage_advanceFrom_47 kn_i_1 ?_
          refine lv_iadd hx hb d_Storage_advanceFrom_48 ?_
          replace h := xb h
          obtain ⟨a10, rfl, h⟩ := h
          replace h := xb h
          obtain ⟨v9, hv, h⟩ := h
          refine xr_iald C X 0 (by decide) rfl rfl d_Storage_advanceFrom_49 hv ?_
          replace h := xb h
          obtain ⟨_, hO12, h⟩ := h
          replace h := xb h
          obtain ⟨K11, hv, h⟩ := h
          refine xr_kv (va_runV (As := [.int v9]) (rest := []) C.1 (kc_Storage_goBackTo l E hv) (cwV 1 C.1.2.2.2.2 (xw_V m_401 m_402 m_403 m_83 m_404) rfl rfl rfl ky_Storage_goBackTo ⟨(Nat.le_of_ble_eq_true rfl), (Nat.le_of_ble_eq_true rfl)⟩) (xr_pV C X xc_Storage.1 (xk_Xo (xOk hO12) (by decide))) rfl rfl hl.1 rfl (lv_room (Nat.le_of_ble_eq_true rfl)) d_Storage_advanceFrom_50 ⟨(Nat.le_of_ble_eq_true rfl), (Nat.le_of_ble_eq_true rfl)⟩) X (fun H locs X => ?_)
          exact kw_Storage_advanceFrom_53 (th := th) (x1 := x1) C hlk hr hin  X (lv_sub hl [0, 1] rfl) h
      · rw [if_neg hc] at h
        refine lv_iconst hx hb d_Storage_advanceFrom_25 kn_i_m1 ?_
        obtain ⟨rfl, rfl⟩ := Prod.mk.inj (Option.some.inj h)
        exact xr_iret C X hlk hr d_Storage_advanceFrom_26 rfl (Nat.le_of_ble_eq_true rfl) (Nat.le_of_ble_eq_true rfl)
theorem kc_Storage_advanceFrom (l : Launch) (E : xe) {th : Nat} {x1 : Nat} {r : Int32} (h : kf_Storage_advanceFrom_0 K th x1 = some (r, K')) : Met l y_Storage_advanceFrom (Cond.code y_Storage_advanceFrom b_Storage_advanceFrom 3 (some .int) :: w_all) { frames := 2, cells := 0, slots := 0, locals := 42 } (va_Pc [.ref th, .ref x1] (fun U => xx_B E K M U)) (xq_i E K' M r) 0 0 (xe_A E) :=
  xr_met (by decide) (Nat.le_of_ble_eq_true rfl) fun p e s m below meth c ls C X hlk hr hin hl => kw_Storage_advanceFrom_0 C hlk hr hin X hl h
set_option maxHeartbeats 4000000 in
set_option maxRecDepth 100000 in
theorem kw_ES_pull_0 {th : Nat} {x1 : Int32} {x2 : Int32} {r : Int32} (C : xx_C p m c b_ES_pull 3 s args Rn_ES E) (hlk : meth.locks = false) (hr : meth.sig.returnType = (some .int)) (hin : meth.name = "pull") (X : xx_S E K M s H locs) (hl : lv_has ls 3 [(0, .ref th), (1, .int x1), (2, .int x2)]) (h : kf_ES_pull_0 K th x1 x2 = some (r, K')) : W p l e { frames := 3, cells := 0, slots := 0, locals := 64 } s m args below meth c H locs 0 0 (MQ below (xq_i E K' M r) args s 0 0 (xe_A E)) (F0 m 0 ls []) := by
  have hx := C.1.1
  have hb := C.1.2.1
  unfold kf_ES_pull_0 at h
  refine lv_iload_n hx hb d_ES_pull_0 rfl (lv_at hl 1 rfl) ?_
  replace h := xpb h
  obtain ⟨r2, K1, hv, h⟩ := h
  refine xr_ki (va_runS (As := [.int x1]) (rest := []) C.1 (kc_ES_isStorage l E hv) (cwS 1 C.1.2.2.2.2 (xw_S m_374 m_375 m_106 m_376) rfl rfl rfl ky_ES_isStorage ⟨(Nat.le_of_ble_eq_true rfl), (Nat.le_of_ble_eq_true rfl)⟩) (xr_pS C X) rfl rfl hl.1 rfl (lv_room (Nat.le_of_ble_eq_true rfl)) d_ES_pull_1 ⟨(Nat.le_of_ble_eq_true rfl), (Nat.le_of_ble_eq_true rfl)⟩) X (fun H locs X => ?_)
  refine lv_if_eq (tgt := 14) hx hb d_ES_pull_4 (by decide +kernel) (fun hc => ?_) (fun hc => ?_)
  · rw [if_pos hc] at h
    refine lv_iconst hx hb d_ES_pull_14 kn_i_m1 ?_
    obtain ⟨rfl, rfl⟩ := Prod.mk.inj (Option.some.inj h)
    exact xr_iret C X hlk hr d_ES_pull_15 rfl (Nat.le_of_ble_eq_true rfl) (Nat.le_of_ble_eq_true rfl)
  · rw [if_neg hc] at h
    refine lv_iload_n hx hb d_ES_pull_7 rfl (lv_at hl 2 rfl) ?_
    replace h := xpb h
    obtain ⟨r4, K3, hv, h⟩ := h
    refine xr_ki (va_runS (As := [.int x2]) (rest := []) C.1 (kc_ES_isLog l E hv) (cwS 1 C.1.2.2.2.2 (xw_S m_371 m_372 m_106 m_373) rfl rfl rfl ky_ES_isLog ⟨(Nat.le_of_ble_eq_true rfl), (Nat.le_of_ble_eq_true rfl)⟩) (xr_pS C X) rfl rfl hl.1 rfl (lv_room (Nat.le_of_ble_eq_true rfl)) d_ES_pull_8 ⟨(Nat.le_of_ble_eq_true rfl), (Nat.le_of_ble_eq_true rfl)⟩) X (fun H locs X => ?_)
    refine lv_if_ne (tgt := 16) hx hb d_ES_pull_11 (by decide +kernel) (fun hc => ?_) (fun hc => ?_)
    · rw [if_neg hc] at h
      refine lv_aload_n hx hb d_ES_pull_16 rfl (lv_at hl 0 rfl) ?_
      replace h := xb h
      obtain ⟨v5, hv, h⟩ := h
      refine xr_gr C X xc_ES (by decide) 2 (by decide) (by decide) rfl m_61 d_ES_pull_17 hv ?_
      refine lv_iload_n hx hb d_ES_pull_20 rfl (lv_at hl 1 rfl) ?_
      replace h := xb h
      obtain ⟨a7, rfl, h⟩ := h
      replace h := xb h
      obtain ⟨v6, hv, h⟩ := h
      refine xr_aald C X 4 (by decide) rfl rfl d_ES_pull_21 hv ?_
      refine lv_aload_n hx hb d_ES_pull_22 rfl (lv_at hl 0 rfl) ?_
      replace h := xb h
      obtain ⟨v8, hv, h⟩ := h
      refine xr_gr C X xc_ES (by decide) 1 (by decide) (by decide) rfl m_59 d_ES_pull_23 hv ?_
      refine lv_iload_n hx hb d_ES_pull_26 rfl (lv_at hl 2 rfl) ?_
      replace h := xb h
      obtain ⟨a10, rfl, h⟩ := h
      replace h := xb h
      obtain ⟨v9, hv, h⟩ := h
      refine xr_aald C X 3 (by decide) rfl rfl d_ES_pull_27 hv ?_
      replace h := xb h
      obtain ⟨a11, rfl, h⟩ := h
      replace h := xb h
      obtain ⟨a12, rfl, h⟩ := h
      replace h := xb h
      obtain ⟨_, hO14, h⟩ := h
      replace h := xpb h
      obtain ⟨r15, K13, hv, h⟩ := h
      refine xr_ki (va_runV (As := [.ref a12]) (rest := []) C.1 (kc_Storage_advanceFrom l E hv) (cwV 1 C.1.2.2.2.2 (xw_V m_415 m_416 m_417 m_83 m_418) rfl rfl rfl ky_Storage_advanceFrom ⟨(Nat.le_of_ble_eq_true rfl), (Nat.le_of_ble_eq_true rfl)⟩) (xr_pV C X xc_Storage.1 (xk_Xo (xOk hO14) (by decide))) rfl rfl hl.1 rfl (lv_room (Nat.le_of_ble_eq_true rfl)) d_ES_pull_28 ⟨(Nat.le_of_ble_eq_true rfl), (Nat.le_of_ble_eq_true rfl)⟩) X (fun H locs X => ?_)
      obtain ⟨rfl, rfl⟩ := Prod.mk.inj (Option.some.inj h)
      exact xr_iret C X hlk hr d_ES_pull_31 rfl (Nat.le_of_ble_eq_true rfl) (Nat.le_of_ble_eq_true rfl)
    · rw [if_pos hc] at h
      refine lv_iconst hx hb d_ES_pull_14 kn_i_m1 ?_
      obtain ⟨rfl, rfl⟩ := Prod.mk.inj (Option.some.inj h)
      exact xr_iret C X hlk hr d_ES_pull_15 rfl (Nat.le_of_ble_eq_true rfl) (Nat.le_of_ble_eq_true rfl)
theorem kc_ES_pull (l : Launch) (E : xe) {th : Nat} {x1 : Int32} {x2 : Int32} {r : Int32} (h : kf_ES_pull_0 K th x1 x2 = some (r, K')) : Met l y_ES_pull (Cond.code y_ES_pull b_ES_pull 3 (some .int) :: w_all) { frames := 3, cells := 0, slots := 0, locals := 64 } (va_Pc [.ref th, .int x1, .int x2] (fun U => xx_B E K M U)) (xq_i E K' M r) 0 0 (xe_A E) :=
  xr_met (by decide) (Nat.le_of_ble_eq_true rfl) fun p e s m below meth c ls C X hlk hr hin hl => kw_ES_pull_0 C hlk hr hin X hl h
set_option maxHeartbeats 4000000 in
set_option maxRecDepth 100000 in
theorem kwb_Master_pushAgain_4 {rec4 : xk → Nat → Nat → Int32 → Int32 → Option (Int32 × xk)} {th : Nat} {x1 : Nat} {x2 : Int32} {x3 : Int32} {r : Int32} (C : xx_C p m c b_Master_pushAgain 4 s args Rn_Master E) (hlk : meth.locks = false) (hr : meth.sig.returnType = (some .int)) (hin : meth.name = "pushAgain") (hrec4 : ∀ {H : Heap} {locs : List Loc} {ls : Array Slot} {K : xk} {th : Nat} {x1 : Nat} {x2 : Int32} {x3 : Int32}, xx_S E K M s H locs → lv_has ls 4 [(0, .ref th), (1, .ref x1), (2, .int x2), (3, .int x3)] → rec4 K th x1 x2 x3 = some (r, K') → W p l e { frames := 3, cells := 0, slots := 0, locals := 72 } s m args below meth c H locs 0 0 (MQ below (xq_i E K' M r) args s 0 0 (xe_A E)) (F0 m 4 ls [])) (X : xx_S E K M s H locs) (hl : lv_has ls 4 [(0, .ref th), (1, .ref x1), (2, .int x2), (3, .int x3)]) (h : kb_Master_pushAgain_4 rec4 K th x1 x2 x3 = some (r, K')) : W p l e { frames := 3, cells := 0, slots := 0, locals := 72 } s m args below meth c H locs 0 0 (MQ below (xq_i E K' M r) args s 0 0 (xe_A E)) (F0 m 4 ls []) := by
  have hx := C.1.1
  have hb := C.1.2.1
  unfold kb_Master_pushAgain_4 at h
  refine lv_iload_n hx hb d_Master_pushAgain_4 rfl (lv_at hl 3 rfl) ?_
  refine lv_aload_n hx hb d_Master_pushAgain_5 rfl (lv_at hl 0 rfl) ?_
  replace h := xb h
  obtain ⟨v1, hv, h⟩ := h
  refine xr_gi C X xc_Master (by decide) 11 (by decide) (by decide) rfl m_301 d_Master_pushAgain_6 hv ?_
  refine lv_icmp_ge (tgt := 32) hx hb d_Master_pushAgain_9 (by decide +kernel) (fun hc => ?_) (fun hc => ?_)
  · rw [if_pos hc] at h
    refine lv_iload_n hx hb d_Master_pushAgain_32 rfl (lv_at hl 2 rfl) ?_
    obtain ⟨rfl, rfl⟩ := Prod.mk.inj (Option.some.inj h)
    exact xr_iret C X hlk hr d_Master_pushAgain_33 rfl (Nat.le_of_ble_eq_true rfl) (Nat.le_of_ble_eq_true rfl)
  · rw [if_neg hc] at h
    refine lv_iload_n hx hb d_Master_pushAgain_12 rfl (lv_at hl 2 rfl) ?_
    refine lv_aload_n hx hb d_Master_pushAgain_13 rfl (lv_at hl 0 rfl) ?_
    refine lv_aload_n hx hb d_Master_pushAgain_14 rfl (lv_at hl 0 rfl) ?_
    replace h := xb h
    obtain ⟨v2, hv, h⟩ := h
    refine xr_gr C X xc_Master (by decide) 10 (by decide) (by decide) rfl m_48 d_Master_pushAgain_15 hv ?_
    refine lv_iload_n hx hb d_Master_pushAgain_18 rfl (lv_at hl 3 rfl) ?_
    replace h := xb h
    obtain ⟨a4, rfl, h⟩ := h
    replace h := xb h
    obtain ⟨v3, hv, h⟩ := h
    refine xr_aald C X 10 (by decide) rfl rfl d_Master_pushAgain_19 hv ?_
    refine lv_aload_n hx hb d_Master_pushAgain_20 rfl (lv_at hl 1 rfl) ?_
    replace h := xb h
    obtain ⟨a5, rfl, h⟩ := h
    replace h := xb h
    obtain ⟨_, hO7, h⟩ := h
    replace h := xpb h
    obtain ⟨r8, K6, hv, h⟩ := h
    refine xr_ki (va_runV (As := [.ref a5, .ref x1]) (rest := [.int x2]) C.1 (kc_Master_pushToOthers l E hv) (cwV 2 C.1.2.2.2.2 (xw_V m_302 m_303 m_304 m_93 m_305) rfl rfl rfl ky_Master_pushToOthers ⟨(Nat.le_of_ble_eq_true rfl), (Nat.le_of_ble_eq_true rfl)⟩) (xr_pV C X xc_Master.1 (xk_Xo (xOk hO7) (by decide))) rfl rfl hl.1 rfl (lv_room (Nat.le_of_ble_eq_true rfl)) d_Master_pushAgain_21 ⟨(Nat.le_of_ble_eq_true rfl), (Nat.le_of_ble_eq_true rfl)⟩) X (fun H locs X => ?_)
    refine lv_iadd hx hb d_Master_pushAgain_24 ?_
    refine lv_istore_n hx hb d_Master_pushAgain_25 rfl hl (by decide) rfl (fun ls hl => ?_)
    have hl : lv_has ls 4 [(2, .int (x2 + r8)), (0, .ref th), (1, .ref x1), (3, .int x3)] := hl
    refine lv_iinc (k := 3) (v := (x3 + (1 : Int32))) hx hb d_Master_pushAgain_26 hl rfl (congrArg (fun y : Int32 => x3 + y) kn_i_1) (by decide) rfl (fun ls hl => ?_)
    have hl : lv_has ls 4 [(3, .int (x3 + (1 : Int32))), (2, .int (x2 + r8)), (0, .ref th), (1, .ref x1)] := hl
    refine lv_goto (tgt := 4) hx hb d_Master_pushAgain_29 (by decide +kernel) ?_
    exact hrec4 (th := th) (x1 := x1) (x2 := (x2 + r8)) (x3 := (x3 + (1 : Int32))) X (lv_sub hl [2, 3, 1, 0] rfl) h
theorem kw_Master_pushAgain_4 {r : Int32} (C : xx_C p m c b_Master_pushAgain 4 s args Rn_Master E) (hlk : meth.locks = false) (hr : meth.sig.returnType = (some .int)) (hin : meth.name = "pushAgain") : ∀ (n : Nat) {H : Heap} {locs : List Loc} {ls : Array Slot} {K : xk} {th : Nat} {x1 : Nat} {x2 : Int32} {x3 : Int32}, xx_S E K M s H locs → lv_has ls 4 [(0, .ref th), (1, .ref x1), (2, .int x2), (3, .int x3)] → kf_Master_pushAgain_4 n K th x1 x2 x3 = some (r, K') → W p l e { frames := 3, cells := 0, slots := 0, locals := 72 } s m args below meth c H locs 0 0 (MQ below (xq_i E K' M r) args s 0 0 (xe_A E)) (F0 m 4 ls []) := by
  intro n
  induction n with
  | zero => intro H locs ls K th x1 x2 x3 X hl h; exact nomatch (show (none : Option (Int32 × xk)) = some _ from h)
  | succ n ih => intro H locs ls K th x1 x2 x3 X hl h; exact kwb_Master_pushAgain_4 C hlk hr hin ih X hl h
set_option maxHeartbeats 4000000 in
set_option maxRecDepth 100000 in
theorem kw_Master_pushAgain_0 {th : Nat} {x1 : Nat} {r : Int32} (C : xx_C p m c b_Master_pushAgain 4 s args Rn_Master E) (hlk : meth.locks = false) (hr : meth.sig.returnType = (some .int)) (hin : meth.name = "pushAgain") (X : xx_S E K M s H locs) (hl : lv_has ls 4 [(0, .ref th), (1, .ref x1)]) (h : kf_Master_pushAgain_0 K th x1 = some (r, K')) : W p l e { frames := 3, cells := 0, slots := 0, locals := 72 } s m args below meth c H locs 0 0 (MQ below (xq_i E K' M r) args s 0 0 (xe_A E)) (F0 m 0 ls []) := by
  have hx := C.1.1
  have hb := C.1.2.1
  unfold kf_Master_pushAgain_0 at h
  refine lv_iconst hx hb d_Master_pushAgain_0 kn_i_0 ?_
  refine lv_istore_n hx hb d_Master_pushAgain_1 rfl hl (by decide) rfl (fun ls hl => ?_)
  have hl : lv_has ls 4 [(2, .int (0 : Int32)), (0, .ref th), (1, .ref x1)] := hl
  refine lv_iconst hx hb d_Master_pushAgain_2 kn_i_0 ?_
  refine lv_istore_n hx hb d_Master_pushAgain_3 rfl hl (by decide) rfl (fun ls hl => ?_)
  have hl : lv_has ls 4 [(3, .int (0 : Int32)), (2, .int (0 : Int32)), (0, .ref th), (1, .ref x1)] := hl
  exact kw_Master_pushAgain_4 C hlk hr hin 1000 X (lv_sub hl [2, 3, 1, 0] rfl) h
theorem kc_Master_pushAgain (l : Launch) (E : xe) {th : Nat} {x1 : Nat} {r : Int32} (h : kf_Master_pushAgain_0 K th x1 = some (r, K')) : Met l y_Master_pushAgain (Cond.code y_Master_pushAgain b_Master_pushAgain 4 (some .int) :: w_all) { frames := 3, cells := 0, slots := 0, locals := 72 } (va_Pc [.ref th, .ref x1] (fun U => xx_B E K M U)) (xq_i E K' M r) 0 0 (xe_A E) :=
  xr_met (by decide) (Nat.le_of_ble_eq_true rfl) fun p e s m below meth c ls C X hlk hr hin hl => kw_Master_pushAgain_0 C hlk hr hin X hl h
set_option maxHeartbeats 4000000 in
set_option maxRecDepth 100000 in
theorem kw_ES_push_0 {th : Nat} {x1 : Int32} {r : Int32} (C : xx_C p m c b_ES_push 2 s args Rn_ES E) (hlk : meth.locks = false) (hr : meth.sig.returnType = (some .int)) (hin : meth.name = "push") (X : xx_S E K M s H locs) (hl : lv_has ls 2 [(0, .ref th), (1, .int x1)]) (h : kf_ES_push_0 K th x1 = some (r, K')) : W p l e { frames := 4, cells := 0, slots := 0, locals := 95 } s m args below meth c H locs 0 0 (MQ below (xq_i E K' M r) args s 0 0 (xe_A E)) (F0 m 0 ls []) := by
  have hx := C.1.1
  have hb := C.1.2.1
  unfold kf_ES_push_0 at h
  refine lv_aload_n hx hb d_ES_push_0 rfl (lv_at hl 0 rfl) ?_
  refine lv_iload_n hx hb d_ES_push_1 rfl (lv_at hl 1 rfl) ?_
  replace h := xb h
  obtain ⟨_, hO2, h⟩ := h
  replace h := xpb h
  obtain ⟨r3, K1, hv, h⟩ := h
  refine xr_ki (va_runV (As := [.int x1]) (rest := []) C.1 (kc_ES_isMaster l E hv) (cwV 1 C.1.2.2.2.2 (xw_V m_356 m_357 m_358 m_106 m_359) rfl rfl rfl ky_ES_isMaster ⟨(Nat.le_of_ble_eq_true rfl), (Nat.le_of_ble_eq_true rfl)⟩) (xr_pV C X xc_ES.1 (xk_Xo (xOk hO2) (by decide))) rfl rfl hl.1 rfl (lv_room (Nat.le_of_ble_eq_true rfl)) d_ES_push_2 ⟨(Nat.le_of_ble_eq_true rfl), (Nat.le_of_ble_eq_true rfl)⟩) X (fun H locs X => ?_)
  refine lv_if_eq (tgt := 24) hx hb d_ES_push_5 (by decide +kernel) (fun hc => ?_) (fun hc => ?_)
  · rw [if_pos hc] at h
    refine lv_iconst hx hb d_ES_push_24 kn_i_m1 ?_
    obtain ⟨rfl, rfl⟩ := Prod.mk.inj (Option.some.inj h)
    exact xr_iret C X hlk hr d_ES_push_25 rfl (Nat.le_of_ble_eq_true rfl) (Nat.le_of_ble_eq_true rfl)
  · rw [if_neg hc] at h
    refine lv_aload_n hx hb d_ES_push_8 rfl (lv_at hl 0 rfl) ?_
    replace h := xb h
    obtain ⟨v4, hv, h⟩ := h
    refine xr_gr C X xc_ES (by decide) 4 (by decide) (by decide) rfl m_65 d_ES_push_9 hv ?_
    refine lv_iload_n hx hb d_ES_push_12 rfl (lv_at hl 1 rfl) ?_
    replace h := xb h
    obtain ⟨a6, rfl, h⟩ := h
    replace h := xb h
    obtain ⟨v5, hv, h⟩ := h
    refine xr_aald C X 6 (by decide) rfl rfl d_ES_push_13 hv ?_
    refine lv_aload_n hx hb d_ES_push_14 rfl (lv_at hl 0 rfl) ?_
    replace h := xb h
    obtain ⟨v7, hv, h⟩ := h
    refine xr_gr C X xc_ES (by decide) 5 (by decide) (by decide) rfl m_72 d_ES_push_15 hv ?_
    replace h := xb h
    obtain ⟨a8, rfl, h⟩ := h
    replace h := xb h
    obtain ⟨a9, rfl, h⟩ := h
    replace h := xb h
    obtain ⟨_, hO11, h⟩ := h
    replace h := xpb h
    obtain ⟨r12, K10, hv, h⟩ := h
    refine xr_ki (va_runV (As := [.ref a9]) (rest := []) C.1 (kc_Master_pushAgain l E hv) (cwV 1 C.1.2.2.2.2 (xw_V m_419 m_420 m_421 m_93 m_422) rfl rfl rfl ky_Master_pushAgain ⟨(Nat.le_of_ble_eq_true rfl), (Nat.le_of_ble_eq_true rfl)⟩) (xr_pV C X xc_Master.1 (xk_Xo (xOk hO11) (by decide))) rfl rfl hl.1 rfl (lv_room (Nat.le_of_ble_eq_true rfl)) d_ES_push_18 ⟨(Nat.le_of_ble_eq_true rfl), (Nat.le_of_ble_eq_true rfl)⟩) X (fun H locs X => ?_)
    refine lv_goto (tgt := 25) hx hb d_ES_push_21 (by decide +kernel) ?_
    obtain ⟨rfl, rfl⟩ := Prod.mk.inj (Option.some.inj h)
    exact xr_iret C X hlk hr d_ES_push_25 rfl (Nat.le_of_ble_eq_true rfl) (Nat.le_of_ble_eq_true rfl)
theorem kc_ES_push (l : Launch) (E : xe) {th : Nat} {x1 : Int32} {r : Int32} (h : kf_ES_push_0 K th x1 = some (r, K')) : Met l y_ES_push (Cond.code y_ES_push b_ES_push 2 (some .int) :: w_all) { frames := 4, cells := 0, slots := 0, locals := 95 } (va_Pc [.ref th, .int x1] (fun U => xx_B E K M U)) (xq_i E K' M r) 0 0 (xe_A E) :=
  xr_met (by decide) (Nat.le_of_ble_eq_true rfl) fun p e s m below meth c ls C X hlk hr hin hl => kw_ES_push_0 C hlk hr hin X hl h
set_option maxHeartbeats 4000000 in
set_option maxRecDepth 100000 in
theorem kwb_ES_raiseCoordinators_2 {rec2 : xk → Nat → Int32 → Int32 → Option xk} {th : Nat} {x1 : Int32} {x2 : Int32} (C : xx_C p m c b_ES_raiseCoordinators 3 s args Rn_ES E) (hlk : meth.locks = false) (hr : meth.sig.returnType = none) (hin : meth.name = "raiseCoordinators") (hrec2 : ∀ {H : Heap} {locs : List Loc} {ls : Array Slot} {K : xk} {th : Nat} {x1 : Int32} {x2 : Int32}, xx_S E K M s H locs → lv_has ls 3 [(0, .ref th), (1, .int x1), (2, .int x2)] → rec2 K th x1 x2 = some K' → W p l e { frames := 0, cells := 0, slots := 0, locals := 0 } s m args below meth c H locs 0 0 (MQ below (xq_v E K' M) args s 0 0 (xe_A E)) (F0 m 2 ls [])) (X : xx_S E K M s H locs) (hl : lv_has ls 3 [(0, .ref th), (1, .int x1), (2, .int x2)]) (h : kb_ES_raiseCoordinators_2 rec2 K th x1 x2 = some K') : W p l e { frames := 0, cells := 0, slots := 0, locals := 0 } s m args below meth c H locs 0 0 (MQ below (xq_v E K' M) args s 0 0 (xe_A E)) (F0 m 2 ls []) := by
  have hx := C.1.1
  have hb := C.1.2.1
  unfold kb_ES_raiseCoordinators_2 at h
  refine lv_iload_n hx hb d_ES_raiseCoordinators_2 rfl (lv_at hl 2 rfl) ?_
  refine lv_iconst hx hb d_ES_raiseCoordinators_3 kn_i_3 ?_
  refine lv_icmp_ge (tgt := 35) hx hb d_ES_raiseCoordinators_4 (by decide +kernel) (fun hc => ?_) (fun hc => ?_)
  · rw [if_pos hc] at h
    obtain rfl := Option.some.inj h
    exact xr_vret C X hlk hr d_ES_raiseCoordinators_35 (Nat.le_of_ble_eq_true rfl) (Nat.le_of_ble_eq_true rfl)
  · rw [if_neg hc] at h
    refine lv_aload_n hx hb d_ES_raiseCoordinators_7 rfl (lv_at hl 0 rfl) ?_
    replace h := xb h
    obtain ⟨v1, hv, h⟩ := h
    refine xr_gr C X xc_ES (by decide) 0 (by decide) (by decide) rfl m_57 d_ES_raiseCoordinators_8 hv ?_
    refine lv_iload_n hx hb d_ES_raiseCoordinators_11 rfl (lv_at hl 2 rfl) ?_
    replace h := xb h
    obtain ⟨a3, rfl, h⟩ := h
    replace h := xb h
    obtain ⟨v2, hv, h⟩ := h
    refine xr_aald C X 2 (by decide) rfl rfl d_ES_raiseCoordinators_12 hv ?_
    replace h := xb h
    obtain ⟨a4, rfl, h⟩ := h
    replace h := xb h
    obtain ⟨v5, hv, h⟩ := h
    refine xr_gi C X xc_Coordinator (by decide) 0 (by decide) (by decide) rfl m_97 d_ES_raiseCoordinators_13 hv ?_
    refine lv_if_eq (tgt := 29) hx hb d_ES_raiseCoordinators_16 (by decide +kernel) (fun hc => ?_) (fun hc => ?_)
    · rw [if_pos hc] at h
      refine lv_iinc (k := 2) (v := (x2 + (1 : Int32))) hx hb d_ES_raiseCoordinators_29 hl rfl (congrArg (fun y : Int32 => x2 + y) kn_i_1) (by decide) rfl (fun ls hl => ?_)
      have hl : lv_has ls 3 [(2, .int (x2 + (1 : Int32))), (0, .ref th), (1, .int x1)] := hl
      refine lv_goto (tgt := 2) hx hb d_ES_raiseCoordinators_32 (by decide +kernel) ?_
      exact hrec2 (th := th) (x1 := x1) (x2 := (x2 + (1 : Int32))) X (lv_sub hl [1, 2, 0] rfl) h
    · rw [if_neg hc] at h
      refine lv_aload_n hx hb d_ES_raiseCoordinators_19 rfl (lv_at hl 0 rfl) ?_
      replace h := xb h
      obtain ⟨v6, hv, h⟩ := h
      refine xr_gr C X xc_ES (by decide) 0 (by decide) (by decide) rfl m_57 d_ES_raiseCoordinators_20 hv ?_
      refine lv_iload_n hx hb d_ES_raiseCoordinators_23 rfl (lv_at hl 2 rfl) ?_
      replace h := xb h
      obtain ⟨a8, rfl, h⟩ := h
      replace h := xb h
      obtain ⟨v7, hv, h⟩ := h
      refine xr_aald C X 2 (by decide) rfl rfl d_ES_raiseCoordinators_24 hv ?_
      refine lv_iload_n hx hb d_ES_raiseCoordinators_25 rfl (lv_at hl 1 rfl) ?_
      replace h := xb h
      obtain ⟨a9, rfl, h⟩ := h
      replace h := xb h
      obtain ⟨K10, hv, h⟩ := h
      refine xr_pi C X xc_Coordinator (by decide) 1 (by decide) (by decide) rfl rfl rfl m_98 d_ES_raiseCoordinators_26 hv (fun H locs X => ?_)
      refine lv_iinc (k := 2) (v := (x2 + (1 : Int32))) hx hb d_ES_raiseCoordinators_29 hl rfl (congrArg (fun y : Int32 => x2 + y) kn_i_1) (by decide) rfl (fun ls hl => ?_)
      have hl : lv_has ls 3 [(2, .int (x2 + (1 : Int32))), (0, .ref th), (1, .int x1)] := hl
      refine lv_goto (tgt := 2) hx hb d_ES_raiseCoordinators_32 (by decide +kernel) ?_
      exact hrec2 (th := th) (x1 := x1) (x2 := (x2 + (1 : Int32))) X (lv_sub hl [1, 2, 0] rfl) h
theorem kw_ES_raiseCoordinators_2 (C : xx_C p m c b_ES_raiseCoordinators 3 s args Rn_ES E) (hlk : meth.locks = false) (hr : meth.sig.returnType = none) (hin : meth.name = "raiseCoordinators") : ∀ (n : Nat) {H : Heap} {locs : List Loc} {ls : Array Slot} {K : xk} {th : Nat} {x1 : Int32} {x2 : Int32}, xx_S E K M s H locs → lv_has ls 3 [(0, .ref th), (1, .int x1), (2, .int x2)] → kf_ES_raiseCoordinators_2 n K th x1 x2 = some K' → W p l e { frames := 0, cells := 0, slots := 0, locals := 0 } s m args below meth c H locs 0 0 (MQ below (xq_v E K' M) args s 0 0 (xe_A E)) (F0 m 2 ls []) := by
  intro n
  induction n with
  | zero => intro H locs ls K th x1 x2 X hl h; exact nomatch (show (none : Option xk) = some _ from h)
  | succ n ih => intro H locs ls K th x1 x2 X hl h; exact kwb_ES_raiseCoordinators_2 C hlk hr hin ih X hl h
set_option maxHeartbeats 4000000 in
set_option maxRecDepth 100000 in
theorem kw_ES_raiseCoordinators_0 {th : Nat} {x1 : Int32} (C : xx_C p m c b_ES_raiseCoordinators 3 s args Rn_ES E) (hlk : meth.locks = false) (hr : meth.sig.returnType = none) (hin : meth.name = "raiseCoordinators") (X : xx_S E K M s H locs) (hl : lv_has ls 3 [(0, .ref th), (1, .int x1)]) (h : kf_ES_raiseCoordinators_0 K th x1 = some K') : W p l e { frames := 0, cells := 0, slots := 0, locals := 0 } s m args below meth c H locs 0 0 (MQ below (xq_v E K' M) args s 0 0 (xe_A E)) (F0 m 0 ls []) := by
  have hx := C.1.1
  have hb := C.1.2.1
  unfold kf_ES_raiseCoordinators_0 at h
  refine lv_iconst hx hb d_ES_raiseCoordinators_0 kn_i_0 ?_
  refine lv_istore_n hx hb d_ES_raiseCoordinators_1 rfl hl (by decide) rfl (fun ls hl => ?_)
  have hl : lv_has ls 3 [(2, .int (0 : Int32)), (0, .ref th), (1, .int x1)] := hl
  exact kw_ES_raiseCoordinators_2 C hlk hr hin 1000 X (lv_sub hl [1, 2, 0] rfl) h
theorem kc_ES_raiseCoordinators (l : Launch) (E : xe) {th : Nat} {x1 : Int32} (h : kf_ES_raiseCoordinators_0 K th x1 = some K') : Met l y_ES_raiseCoordinators (Cond.code y_ES_raiseCoordinators b_ES_raiseCoordinators 3 none :: w_all) { frames := 0, cells := 0, slots := 0, locals := 0 } (va_Pc [.ref th, .int x1] (fun U => xx_B E K M U)) (xq_v E K' M) 0 0 (xe_A E) :=
  xr_met (by decide) (Nat.le_of_ble_eq_true rfl) fun p e s m below meth c ls C X hlk hr hin hl => kw_ES_raiseCoordinators_0 C hlk hr hin X hl h
set_option maxHeartbeats 4000000 in
set_option maxRecDepth 100000 in
theorem kwb_Log_copyFrom_38 {rec38 : xk → Nat → Nat → Int32 → Option xk} {th : Nat} {x1 : Nat} {x2 : Int32} (C : xx_C p m c b_Log_copyFrom 3 s args Rn_Log E) (hlk : meth.locks = false) (hr : meth.sig.returnType = none) (hin : meth.name = "copyFrom") (hrec38 : ∀ {H : Heap} {locs : List Loc} {ls : Array Slot} {K : xk} {th : Nat} {x1 : Nat} {x2 : Int32}, xx_S E K M s H locs → lv_has ls 3 [(0, .ref th), (1, .ref x1), (2, .int x2)] → rec38 K th x1 x2 = some K' → W p l e { frames := 0, cells := 0, slots := 0, locals := 0 } s m args below meth c H locs 0 0 (MQ below (xq_v E K' M) args s 0 0 (xe_A E)) (F0 m 38 ls [])) (X : xx_S E K M s H locs) (hl : lv_has ls 3 [(0, .ref th), (1, .ref x1), (2, .int x2)]) (h : kb_Log_copyFrom_38 rec38 K th x1 x2 = some K') : W p l e { frames := 0, cells := 0, slots := 0, locals := 0 } s m args below meth c H locs 0 0 (MQ below (xq_v E K' M) args s 0 0 (xe_A E)) (F0 m 38 ls []) := by
  have hx := C.1.1
  have hb := C.1.2.1
  unfold kb_Log_copyFrom_38 at h
  refine lv_iload_n hx hb d_Log_copyFrom_38 rfl (lv_at hl 2 rfl) ?_
  refine lv_bipush hx hb d_Log_copyFrom_39 kn_b_9 ?_
  refine lv_icmp_gt (tgt := 62) hx hb d_Log_copyFrom_41 (by decide +kernel) (fun hc => ?_) (fun hc => ?_)
  · rw [if_pos hc] at h
    obtain rfl := Option.some.inj h
    exact xr_vret C X hlk hr d_Log_copyFrom_62 (Nat.le_of_ble_eq_true rfl) (Nat.le_of_ble_eq_true rfl)
  · rw [if_neg hc] at h
    refine lv_aload_n hx hb d_Log_copyFrom_44 rfl (lv_at hl 0 rfl) ?_
    replace h := xb h
    obtain ⟨v1, hv, h⟩ := h
    refine xr_gr C X xc_Log (by decide) 4 (by decide) (by decide) rfl m_19 d_Log_copyFrom_45 hv ?_
    refine lv_iload_n hx hb d_Log_copyFrom_48 rfl (lv_at hl 2 rfl) ?_
    refine lv_aload_n hx hb d_Log_copyFrom_49 rfl (lv_at hl 1 rfl) ?_
    replace h := xb h
    obtain ⟨v2, hv, h⟩ := h
    refine xr_gr C X xc_Log (by decide) 4 (by decide) (by decide) rfl m_19 d_Log_copyFrom_50 hv ?_
    refine lv_iload_n hx hb d_Log_copyFrom_53 rfl (lv_at hl 2 rfl) ?_
    replace h := xb h
    obtain ⟨a4, rfl, h⟩ := h
    replace h := xb h
    obtain ⟨v3, hv, h⟩ := h
    refine xr_iald C X 0 (by decide) rfl rfl d_Log_copyFrom_54 hv ?_
    replace h := xb h
    obtain ⟨a6, rfl, h⟩ := h
    replace h := xb h
    obtain ⟨K5, hv, h⟩ := h
    refine xr_iast C X 0 (by decide) rfl rfl d_Log_copyFrom_55 hv (fun H locs X => ?_)
    refine lv_iinc (k := 2) (v := (x2 + (1 : Int32))) hx hb d_Log_copyFrom_56 hl rfl (congrArg (fun y : Int32 => x2 + y) kn_i_1) (by decide) rfl (fun ls hl => ?_)
    have hl : lv_has ls 3 [(2, .int (x2 + (1 : Int32))), (0, .ref th), (1, .ref x1)] := hl
    refine lv_goto (tgt := 38) hx hb d_Log_copyFrom_59 (by decide +kernel) ?_
    exact hrec38 (th := th) (x1 := x1) (x2 := (x2 + (1 : Int32))) X (lv_sub hl [1, 2, 0] rfl) h
theorem kw_Log_copyFrom_38 (C : xx_C p m c b_Log_copyFrom 3 s args Rn_Log E) (hlk : meth.locks = false) (hr : meth.sig.returnType = none) (hin : meth.name = "copyFrom") : ∀ (n : Nat) {H : Heap} {locs : List Loc} {ls : Array Slot} {K : xk} {th : Nat} {x1 : Nat} {x2 : Int32}, xx_S E K M s H locs → lv_has ls 3 [(0, .ref th), (1, .ref x1), (2, .int x2)] → kf_Log_copyFrom_38 n K th x1 x2 = some K' → W p l e { frames := 0, cells := 0, slots := 0, locals := 0 } s m args below meth c H locs 0 0 (MQ below (xq_v E K' M) args s 0 0 (xe_A E)) (F0 m 38 ls []) := by
  intro n
  induction n with
  | zero => intro H locs ls K th x1 x2 X hl h; exact nomatch (show (none : Option xk) = some _ from h)
  | succ n ih => intro H locs ls K th x1 x2 X hl h; exact kwb_Log_copyFrom_38 C hlk hr hin ih X hl h
set_option maxHeartbeats 4000000 in
set_option maxRecDepth 100000 in
theorem kwb_Log_copyFrom_2 {rec2 : xk → Nat → Nat → Int32 → Option xk} {th : Nat} {x1 : Nat} {x2 : Int32} (C : xx_C p m c b_Log_copyFrom 3 s args Rn_Log E) (hlk : meth.locks = false) (hr : meth.sig.returnType = none) (hin : meth.name = "copyFrom") (hrec2 : ∀ {H : Heap} {locs : List Loc} {ls : Array Slot} {K : xk} {th : Nat} {x1 : Nat} {x2 : Int32}, xx_S E K M s H locs → lv_has ls 3 [(0, .ref th), (1, .ref x1), (2, .int x2)] → rec2 K th x1 x2 = some K' → W p l e { frames := 0, cells := 0, slots := 0, locals := 0 } s m args below meth c H locs 0 0 (MQ below (xq_v E K' M) args s 0 0 (xe_A E)) (F0 m 2 ls [])) (X : xx_S E K M s H locs) (hl : lv_has ls 3 [(0, .ref th), (1, .ref x1), (2, .int x2)]) (h : kb_Log_copyFrom_2 rec2 K th x1 x2 = some K') : W p l e { frames := 0, cells := 0, slots := 0, locals := 0 } s m args below meth c H locs 0 0 (MQ below (xq_v E K' M) args s 0 0 (xe_A E)) (F0 m 2 ls []) := by
  have hx := C.1.1
  have hb := C.1.2.1
  unfold kb_Log_copyFrom_2 at h
  refine lv_iload_n hx hb d_Log_copyFrom_2 rfl (lv_at hl 2 rfl) ?_
  refine lv_aload_n hx hb d_Log_copyFrom_3 rfl (lv_at hl 1 rfl) ?_
  replace h := xb h
  obtain ⟨v1, hv, h⟩ := h
  refine xr_gi C X xc_Log (by decide) 6 (by decide) (by decide) rfl m_220 d_Log_copyFrom_4 hv ?_
  refine lv_icmp_ge (tgt := 28) hx hb d_Log_copyFrom_7 (by decide +kernel) (fun hc => ?_) (fun hc => ?_)
  · rw [if_pos hc] at h
    refine lv_aload_n hx hb d_Log_copyFrom_28 rfl (lv_at hl 0 rfl) ?_
    refine lv_aload_n hx hb d_Log_copyFrom_29 rfl (lv_at hl 1 rfl) ?_
    replace h := xb h
    obtain ⟨v2, hv, h⟩ := h
    refine xr_gi C X xc_Log (by decide) 6 (by decide) (by decide) rfl m_220 d_Log_copyFrom_30 hv ?_
    replace h := xb h
    obtain ⟨K3, hv, h⟩ := h
    refine xr_pi C X xc_Log (by decide) 6 (by decide) (by decide) rfl rfl rfl m_220 d_Log_copyFrom_33 hv (fun H locs X => ?_)
    refine lv_iconst hx hb d_Log_copyFrom_36 kn_i_0 ?_
    refine lv_istore_n hx hb d_Log_copyFrom_37 rfl hl (by decide) rfl (fun ls hl => ?_)
    have hl : lv_has ls 3 [(2, .int (0 : Int32)), (0, .ref th), (1, .ref x1)] := hl
    exact kw_Log_copyFrom_38 C hlk hr hin 1000 X (lv_sub hl [1, 2, 0] rfl) h
  · rw [if_neg hc] at h
    refine lv_aload_n hx hb d_Log_copyFrom_10 rfl (lv_at hl 0 rfl) ?_
    replace h := xb h
    obtain ⟨v4, hv, h⟩ := h
    refine xr_gr C X xc_Log (by decide) 5 (by decide) (by decide) rfl m_21 d_Log_copyFrom_11 hv ?_
    refine lv_iload_n hx hb d_Log_copyFrom_14 rfl (lv_at hl 2 rfl) ?_
    refine lv_aload_n hx hb d_Log_copyFrom_15 rfl (lv_at hl 1 rfl) ?_
    replace h := xb h
    obtain ⟨v5, hv, h⟩ := h
    refine xr_gr C X xc_Log (by decide) 5 (by decide) (by decide) rfl m_21 d_Log_copyFrom_16 hv ?_
    refine lv_iload_n hx hb d_Log_copyFrom_19 rfl (lv_at hl 2 rfl) ?_
    replace h := xb h
    obtain ⟨a7, rfl, h⟩ := h
    replace h := xb h
    obtain ⟨v6, hv, h⟩ := h
    refine xr_aald C X 8 (by decide) rfl rfl d_Log_copyFrom_20 hv ?_
    replace h := xb h
    obtain ⟨a9, rfl, h⟩ := h
    replace h := xb h
    obtain ⟨K8, hv, h⟩ := h
    refine xr_aast (v := v6) C X 8 3 (by decide) (by decide) rfl rfl rfl d_Log_copyFrom_21 hv (fun H locs X => ?_)
    refine lv_iinc (k := 2) (v := (x2 + (1 : Int32))) hx hb d_Log_copyFrom_22 hl rfl (congrArg (fun y : Int32 => x2 + y) kn_i_1) (by decide) rfl (fun ls hl => ?_)
    have hl : lv_has ls 3 [(2, .int (x2 + (1 : Int32))), (0, .ref th), (1, .ref x1)] := hl
    refine lv_goto (tgt := 2) hx hb d_Log_copyFrom_25 (by decide +kernel) ?_
    exact hrec2 (th := th) (x1 := x1) (x2 := (x2 + (1 : Int32))) X (lv_sub hl [1, 2, 0] rfl) h
theorem kw_Log_copyFrom_2 (C : xx_C p m c b_Log_copyFrom 3 s args Rn_Log E) (hlk : meth.locks = false) (hr : meth.sig.returnType = none) (hin : meth.name = "copyFrom") : ∀ (n : Nat) {H : Heap} {locs : List Loc} {ls : Array Slot} {K : xk} {th : Nat} {x1 : Nat} {x2 : Int32}, xx_S E K M s H locs → lv_has ls 3 [(0, .ref th), (1, .ref x1), (2, .int x2)] → kf_Log_copyFrom_2 n K th x1 x2 = some K' → W p l e { frames := 0, cells := 0, slots := 0, locals := 0 } s m args below meth c H locs 0 0 (MQ below (xq_v E K' M) args s 0 0 (xe_A E)) (F0 m 2 ls []) := by
  intro n
  induction n with
  | zero => intro H locs ls K th x1 x2 X hl h; exact nomatch (show (none : Option xk) = some _ from h)
  | succ n ih => intro H locs ls K th x1 x2 X hl h; exact kwb_Log_copyFrom_2 C hlk hr hin ih X hl h
set_option maxHeartbeats 4000000 in
set_option maxRecDepth 100000 in
theorem kw_Log_copyFrom_0 {th : Nat} {x1 : Nat} (C : xx_C p m c b_Log_copyFrom 3 s args Rn_Log E) (hlk : meth.locks = false) (hr : meth.sig.returnType = none) (hin : meth.name = "copyFrom") (X : xx_S E K M s H locs) (hl : lv_has ls 3 [(0, .ref th), (1, .ref x1)]) (h : kf_Log_copyFrom_0 K th x1 = some K') : W p l e { frames := 0, cells := 0, slots := 0, locals := 0 } s m args below meth c H locs 0 0 (MQ below (xq_v E K' M) args s 0 0 (xe_A E)) (F0 m 0 ls []) := by
  have hx := C.1.1
  have hb := C.1.2.1
  unfold kf_Log_copyFrom_0 at h
  refine lv_iconst hx hb d_Log_copyFrom_0 kn_i_0 ?_
  refine lv_istore_n hx hb d_Log_copyFrom_1 rfl hl (by decide) rfl (fun ls hl => ?_)
  have hl : lv_has ls 3 [(2, .int (0 : Int32)), (0, .ref th), (1, .ref x1)] := hl
  exact kw_Log_copyFrom_2 C hlk hr hin 1000 X (lv_sub hl [1, 2, 0] rfl) h
theorem kc_Log_copyFrom (l : Launch) (E : xe) {th : Nat} {x1 : Nat} (h : kf_Log_copyFrom_0 K th x1 = some K') : Met l y_Log_copyFrom (Cond.code y_Log_copyFrom b_Log_copyFrom 3 none :: w_all) { frames := 0, cells := 0, slots := 0, locals := 0 } (va_Pc [.ref th, .ref x1] (fun U => xx_B E K M U)) (xq_v E K' M) 0 0 (xe_A E) :=
  xr_met (by decide) (Nat.le_of_ble_eq_true rfl) fun p e s m below meth c ls C X hlk hr hin hl => kw_Log_copyFrom_0 C hlk hr hin X hl h
set_option maxHeartbeats 4000000 in
set_option maxRecDepth 100000 in
theorem kw_Log_enter_0 {th : Nat} {x1 : Int32} {x2 : Int32} {x3 : Int32} (C : xx_C p m c b_Log_enter 4 s args Rn_Log E) (hlk : meth.locks = false) (hr : meth.sig.returnType = none) (hin : meth.name = "enter") (X : xx_S E K M s H locs) (hl : lv_has ls 4 [(0, .ref th), (1, .int x1), (2, .int x2), (3, .int x3)]) (h : kf_Log_enter_0 K th x1 x2 x3 = some K') : W p l e { frames := 0, cells := 0, slots := 0, locals := 0 } s m args below meth c H locs 0 0 (MQ below (xq_v E K' M) args s 0 0 (xe_A E)) (F0 m 0 ls []) := by
  have hx := C.1.1
  have hb := C.1.2.1
  unfold kf_Log_enter_0 at h
  refine lv_aload_n hx hb d_Log_enter_0 rfl (lv_at hl 0 rfl) ?_
  refine lv_iload_n hx hb d_Log_enter_1 rfl (lv_at hl 1 rfl) ?_
  replace h := xb h
  obtain ⟨K1, hv, h⟩ := h
  refine xr_pi C X xc_Log (by decide) 2 (by decide) (by decide) rfl rfl rfl m_16 d_Log_enter_2 hv (fun H locs X => ?_)
  refine lv_aload_n hx hb d_Log_enter_5 rfl (lv_at hl 0 rfl) ?_
  replace h := xb h
  obtain ⟨v2, hv, h⟩ := h
  refine xr_gr C X xc_Log (by decide) 4 (by decide) (by decide) rfl m_19 d_Log_enter_6 hv ?_
  refine lv_iload_n hx hb d_Log_enter_9 rfl (lv_at hl 1 rfl) ?_
  refine lv_iload_n hx hb d_Log_enter_10 rfl (lv_at hl 2 rfl) ?_
  replace h := xb h
  obtain ⟨a4, rfl, h⟩ := h
  replace h := xb h
  obtain ⟨K3, hv, h⟩ := h
  refine xr_iast C X 0 (by decide) rfl rfl d_Log_enter_11 hv (fun H locs X => ?_)
  refine lv_aload_n hx hb d_Log_enter_12 rfl (lv_at hl 0 rfl) ?_
  refine lv_iload_n hx hb d_Log_enter_13 rfl (lv_at hl 3 rfl) ?_
  replace h := xb h
  obtain ⟨K5, hv, h⟩ := h
  refine xr_pi C X xc_Log (by decide) 3 (by decide) (by decide) rfl rfl rfl m_17 d_Log_enter_14 hv (fun H locs X => ?_)
  obtain rfl := Option.some.inj h
  exact xr_vret C X hlk hr d_Log_enter_17 (Nat.le_of_ble_eq_true rfl) (Nat.le_of_ble_eq_true rfl)
theorem kc_Log_enter (l : Launch) (E : xe) {th : Nat} {x1 : Int32} {x2 : Int32} {x3 : Int32} (h : kf_Log_enter_0 K th x1 x2 x3 = some K') : Met l y_Log_enter (Cond.code y_Log_enter b_Log_enter 4 none :: w_all) { frames := 0, cells := 0, slots := 0, locals := 0 } (va_Pc [.ref th, .int x1, .int x2, .int x3] (fun U => xx_B E K M U)) (xq_v E K' M) 0 0 (xe_A E) :=
  xr_met (by decide) (Nat.le_of_ble_eq_true rfl) fun p e s m below meth c ls C X hlk hr hin hl => kw_Log_enter_0 C hlk hr hin X hl h
end KW10
