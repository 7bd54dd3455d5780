/-! EpochStore$Master.sendResult(IIILEpochStore$Line;)LEpochStore$Message; -/
def kf_Master_sendResult_0 (K : xk) (th : Nat) (x1 : Int32) (x2 : Int32) (x3 : Int32) (x4 : Nat) : Option (Option Nat × xk) := (xI K 8 0 th).bind fun v1 => (xO K 5 x4).bind fun _ => xp (kf_Line_send_0 K x4 (8 : Int32) x1 v1) fun r4 K2 => (r4).bind fun a5 => (xIs K2 4 4 a5 x2).bind fun K6 => (xIs K6 4 6 a5 x3).bind fun K7 => some ((some a5), K7)
/-! EpochStore$Master.findsConflict(ILEpochStore$Message;)Z -/
def kf_Master_findsConflict_42 (rec4 : xk → Nat → Int32 → Nat → Int32 → Option (Int32 × xk)) (K : xk) (th : Nat) (x1 : Int32) (x2 : Nat) (x3 : Int32) : Option (Int32 × xk) := rec4 K th x1 x2 x3
def kb_Master_findsConflict_4 (rec4 : xk → Nat → Int32 → Nat → Int32 → Option (Int32 × xk)) (K : xk) (th : Nat) (x1 : Int32) (x2 : Nat) (x3 : Int32) : Option (Int32 × xk) := if ((x1 + (1 : Int32)) * (4 : Int32)) ≤ x3 then (some ((0 : Int32), K)) else (xI K 4 7 x2).bind fun v1 => if (v1 &&& ((1 : Int32) <<< (x3 &&& 31))) = 0 then (kf_Master_findsConflict_42 rec4 K th x1 x2 (x3 + (1 : Int32))) else (xR K 8 6 th).bind fun v2 => (v2).bind fun a4 => (xIa K 0 a4 x3).bind fun v3 => (xI K 4 3 x2).bind fun v5 => if v3 ≤ v5 then (kf_Master_findsConflict_42 rec4 K th x1 x2 (x3 + (1 : Int32))) else some ((1 : Int32), K)
def kf_Master_findsConflict_4 : Nat → xk → Nat → Int32 → Nat → Int32 → Option (Int32 × xk)
  | 0 => fun _ _ _ _ _ => none
  | n + 1 => kb_Master_findsConflict_4 (kf_Master_findsConflict_4 n)
def kf_Master_findsConflict_0 (K : xk) (th : Nat) (x1 : Int32) (x2 : Nat) : Option (Int32 × xk) := kf_Master_findsConflict_4 1000 K th x1 x2 (x1 * (4 : Int32))
/-! EpochStore$Master.letPass(ILEpochStore$Writes;)V -/
def kb_Master_letPass_4 (rec4 : xk → Nat → Int32 → Nat → Int32 → Option xk) (K : xk) (th : Nat) (x1 : Int32) (x2 : Nat) (x3 : Int32) : Option xk := if ((x1 + (1 : Int32)) * (4 : Int32)) ≤ x3 then (some K) else (xO K 2 x2).bind fun _ => xp (kf_Writes_has_0 K x2 x3) fun r3 K1 => if r3 = 0 then (rec4 K1 th x1 x2 (x3 + (1 : Int32))) else (xR K1 8 6 th).bind fun v4 => (xI K1 8 3 th).bind fun v5 => (v4).bind fun a7 => (xIt K1 0 a7 x3 v5).bind fun K6 => rec4 K6 th x1 x2 (x3 + (1 : Int32))
def kf_Master_letPass_4 : Nat → xk → Nat → Int32 → Nat → Int32 → Option xk
  | 0 => fun _ _ _ _ _ => none
  | n + 1 => kb_Master_letPass_4 (kf_Master_letPass_4 n)
def kf_Master_letPass_0 (K : xk) (th : Nat) (x1 : Int32) (x2 : Nat) : Option xk := kf_Master_letPass_4 1000 K th x1 x2 (x1 * (4 : Int32))
/-! EpochStore$Master.passesResolvers(LEpochStore$Message;)Z -/
def kb_Master_passesResolvers_4 (rec4 : xk → Nat → Nat → Int32 → Int32 → Option (Int32 × xk)) (K : xk) (th : Nat) (x1 : Nat) (x2 : Int32) (x3 : Int32) : Option (Int32 × xk) := if (2 : Int32) ≤ x3 then ((xZ x2).bind fun z1 => some (z1, K)) else (xO K 8 th).bind fun _ => xp (kf_Master_findsConflict_0 K th x3 x1) fun r4 K2 => if r4 = 0 then ((xR K2 4 8 x1).bind fun v5 => (v5).bind fun a6 => (xO K2 8 th).bind fun _ => (kf_Master_letPass_0 K2 th x3 a6).bind fun K7 => rec4 K7 th x1 x2 (x3 + (1 : Int32))) else rec4 K2 th x1 (0 : Int32) (x3 + (1 : Int32))
def kf_Master_passesResolvers_4 : Nat → xk → Nat → Nat → Int32 → Int32 → Option (Int32 × xk)
  | 0 => fun _ _ _ _ _ => none
  | n + 1 => kb_Master_passesResolvers_4 (kf_Master_passesResolvers_4 n)
def kf_Master_passesResolvers_0 (K : xk) (th : Nat) (x1 : Nat) : Option (Int32 × xk) := kf_Master_passesResolvers_4 1000 K th x1 (1 : Int32) (0 : Int32)
/-! EpochStore$Entry.<init>(IILEpochStore$Writes;)V -/
def kf_Entry_init_0 (K : xk) (th : Nat) (x1 : Int32) (x2 : Int32) (x3 : Nat) : Option xk := (xIs K 3 0 th x1).bind fun K1 => (xIs K1 3 1 th x2).bind fun K2 => (xRs K2 3 2 th (some x3)).bind fun K3 => some K3
/-! EpochStore$OnWay.<init>(LEpochStore$Entry;II)V -/
def kf_OnWay_init_0 (K : xk) (th : Nat) (x1 : Nat) (x2 : Int32) (x3 : Int32) : Option xk := (xRs K 7 0 th (some x1)).bind fun K1 => (xIs K1 7 1 th x2).bind fun K2 => (xIs K2 7 2 th x3).bind fun K3 => some K3
/-! EpochStore$Master.pushToOthers(LEpochStore$OnWay;LEpochStore$Line;)I -/
def kf_Master_pushToOthers_56 (rec5 : xk → Nat → Nat → Nat → Int32 → Int32 → Option (Int32 × xk)) (K : xk) (th : Nat) (x1 : Nat) (x2 : Nat) (x3 : Int32) (x4 : Int32) (x5 : Nat) : Option (Int32 × xk) := (xR K 7 0 x1).bind fun v1 => (xRs K 4 9 x5 v1).bind fun K2 => rec5 K2 th x1 x2 (x3 + (1 : Int32)) (x4 + (1 : Int32))
def kb_Master_pushToOthers_5 (rec5 : xk → Nat → Nat → Nat → Int32 → Int32 → Option (Int32 × xk)) (K : xk) (th : Nat) (x1 : Nat) (x2 : Nat) (x3 : Int32) (x4 : Int32) : Option (Int32 × xk) := if (3 : Int32) ≤ x4 then (some (x3, K)) else (xI K 8 1 th).bind fun v1 => (xI K 7 3 x1).bind fun v2 => if ((v1 &&& (v2 ^^^ (-1 : Int32))) &&& ((1 : Int32) <<< (x4 &&& 31))) = 0 then (rec5 K th x1 x2 x3 (x4 + (1 : Int32))) else (xI K 8 0 th).bind fun v3 => (xO K 5 x2).bind fun _ => xp (kf_Line_send_0 K x2 (6 : Int32) x4 v3) fun r6 K4 => (xR K4 7 0 x1).bind fun v7 => (v7).bind fun a8 => (xI K4 3 0 a8).bind fun v9 => (r6).bind fun a10 => (xIs K4 4 3 a10 v9).bind fun K11 => kf_Master_pushToOthers_56 rec5 K11 th x1 x2 x3 x4 a10
def kf_Master_pushToOthers_5 : Nat → xk → Nat → Nat → Nat → Int32 → Int32 → Option (Int32 × xk)
  | 0 => fun _ _ _ _ _ _ => none
  | n + 1 => kb_Master_pushToOthers_5 (kf_Master_pushToOthers_5 n)
def kf_Master_pushToOthers_0 (K : xk) (th : Nat) (x1 : Nat) (x2 : Nat) : Option (Int32 × xk) := kf_Master_pushToOthers_5 1000 K th x1 x2 (0 : Int32) (0 : Int32)
/-! EpochStore$Master.putOnWay(LEpochStore$Message;LEpochStore$Line;)V -/
def kf_Master_putOnWay_55 (K : xk) (th : Nat) (x2 : Nat) (x3 : Nat) : Option xk := (xO K 8 th).bind fun _ => xp (kf_Master_pushToOthers_0 K th x3 x2) fun r3 K1 => (xI K1 8 3 th).bind fun v4 => (xIs K1 8 4 th v4).bind fun K5 => some K5
def kf_Master_putOnWay_0 (K : xk) (th : Nat) (x1 : Nat) (x2 : Nat) : Option xk := xp (xNw K 8 0) fun q1 K2 => xp (xNw K2 4 0) fun q3 K4 => (xI K4 8 3 th).bind fun v5 => (xI K4 8 4 th).bind fun v6 => (xR K4 4 8 x1).bind fun v7 => (v7).bind fun a8 => (kf_Entry_init_0 K4 q3 v5 v6 a8).bind fun K9 => (xI K9 4 1 x1).bind fun v10 => (xI K9 4 4 x1).bind fun v11 => (kf_OnWay_init_0 K9 q1 q3 v10 v11).bind fun K12 => (xR K12 8 10 th).bind fun v13 => (xI K12 8 11 th).bind fun v14 => (v13).bind fun a16 => (xRt K12 10 7 a16 v14 (some q1)).bind fun K15 => (xI K15 8 11 th).bind fun v17 => (xIs K15 8 11 th (v17 + (1 : Int32))).bind fun K18 => kf_Master_putOnWay_55 K18 th x2 q1
/-! EpochStore$Master.decide(LEpochStore$Message;LEpochStore$Line;)V -/
def kf_Master_decide_35 (K : xk) (th : Nat) (x1 : Nat) (x2 : Nat) : Option xk := (xI K 4 1 x1).bind fun v1 => (xI K 4 4 x1).bind fun v2 => (xO K 8 th).bind fun _ => xp (kf_Master_sendResult_0 K th v1 v2 (6 : Int32) x2) fun r5 K3 => some K3
def kf_Master_decide_76 (K : xk) : Option xk := some K
def kf_Master_decide_0 (K : xk) (th : Nat) (x1 : Nat) (x2 : Nat) : Option xk := (xI K 8 11 th).bind fun v1 => if v1 < (8 : Int32) then ((xI K 4 3 x1).bind fun v2 => (xI K 8 2 th).bind fun v3 => if v2 < v3 then (kf_Master_decide_35 K th x1 x2) else (xI K 4 3 x1).bind fun v4 => (xI K 8 3 th).bind fun v5 => if (v5 - (12 : Int32)) ≤ v4 then ((xI K 8 3 th).bind fun v6 => (xIs K 8 3 th (v6 + (1 : Int32))).bind fun K7 => (xO K7 8 th).bind fun _ => xp (kf_Master_passesResolvers_0 K7 th x1) fun r10 K8 => if r10 = 0 then ((xI K8 4 1 x1).bind fun v11 => (xI K8 4 4 x1).bind fun v12 => (xO K8 8 th).bind fun _ => xp (kf_Master_sendResult_0 K8 th v11 v12 (5 : Int32) x2) fun r15 K13 => some K13) else (xO K8 8 th).bind fun _ => (kf_Master_putOnWay_0 K8 th x1 x2).bind fun K16 => kf_Master_decide_76 K16) else kf_Master_decide_35 K th x1 x2) else some K
section KW7
variable {p : Program} {l : Launch} {e : Env} {s : State} {m : MethodId} {args : Array Value} {below : List Frame} {meth : Method} {c : Code} {H : Heap} {locs : List Loc} {ls : Array Slot} {E : xe} {K K' : xk} {M M' : xm}
set_option maxHeartbeats 4000000 in
set_option maxRecDepth 100000 in
theorem kw_Master_sendResult_0 {th : Nat} {x1 : Int32} {x2 : Int32} {x3 : Int32} {x4 : Nat} {r : Option Nat} (C : xx_C p m c b_Master_sendResult 6 s args Rn_Master E) (hlk : meth.locks = false) (hr : meth.sig.returnType = (some (.object "EpochStore$Message"))) (hin : meth.name = "sendResult") (X : xx_S E K M s H locs) (hl : lv_has ls 6 [(0, .ref th), (1, .int x1), (2, .int x2), (3, .int x3), (4, .ref x4)]) (h : kf_Master_sendResult_0 K th x1 x2 x3 x4 = some (r, K')) : W p l e { frames := 2, cells := 0, slots := 0, locals := 47 } s m args below meth c H locs 0 0 (MQ below (xq_r E K' M r) args s 0 0 (xe_A E)) (F0 m 0 ls []) := by
  have hx := C.1.1
  have hb := C.1.2.1
  unfold kf_Master_sendResult_0 at h
  refine lv_aload hx hb d_Master_sendResult_0 (lv_at hl 4 rfl) ?_
  refine lv_bipush hx hb d_Master_sendResult_2 kn_b_8 ?_
  refine lv_iload_n hx hb d_Master_sendResult_4 rfl (lv_at hl 1 rfl) ?_
  refine lv_aload_n hx hb d_Master_sendResult_5 rfl (lv_at hl 0 rfl) ?_
  replace h := xb h
  obtain ⟨v1, hv, h⟩ := h
  refine xr_gi C X xc_Master (by decide) 0 (by decide) (by decide) rfl m_49 d_Master_sendResult_6 hv ?_
  replace h := xb h
  obtain ⟨_, hO3, h⟩ := h
  replace h := xpb h
  obtain ⟨r4, K2, hv, h⟩ := h
  refine xr_kr (va_runV (As := [.int (8 : Int32), .int x1, .int v1]) (rest := []) C.1 (kc_Line_send l E hv) (cwV 3 C.1.2.2.2.2 (xw_V m_247 m_132 m_133 m_68 m_134) rfl rfl rfl ky_Line_send ⟨(Nat.le_of_ble_eq_true rfl), (Nat.le_of_ble_eq_true rfl)⟩) (xr_pV C X xc_Line.1 (xk_Xo (xOk hO3) (by decide))) rfl rfl hl.1 rfl (lv_room (Nat.le_of_ble_eq_true rfl)) d_Master_sendResult_9 ⟨(Nat.le_of_ble_eq_true rfl), (Nat.le_of_ble_eq_true rfl)⟩) X (fun H locs X => ?_)
  refine xr_astore hx hb d_Master_sendResult_12 hl (by decide) rfl (fun ls hl => ?_)
  have hl : lv_has ls 6 [(5, va_rf r4), (0, .ref th), (1, .int x1), (2, .int x2), (3, .int x3), (4, .ref x4)] := hl
  refine xr_aload hx hb d_Master_sendResult_14 (lv_at hl 0 rfl) ?_
  refine lv_iload_n hx hb d_Master_sendResult_16 rfl (lv_at hl 3 rfl) ?_
  replace h := xb h
  obtain ⟨a5, rfl, h⟩ := h
  replace h := xb h
  obtain ⟨K6, hv, h⟩ := h
  refine xr_pi C X xc_Message (by decide) 4 (by decide) (by decide) rfl rfl rfl m_243 d_Master_sendResult_17 hv (fun H locs X => ?_)
  refine lv_aload hx hb d_Master_sendResult_20 (lv_at hl 0 rfl) ?_
  refine lv_iload_n hx hb d_Master_sendResult_22 rfl (lv_at hl 4 rfl) ?_
  replace h := xb h
  obtain ⟨K7, hv, h⟩ := h
  refine xr_pi C X xc_Message (by decide) 6 (by decide) (by decide) rfl rfl rfl m_266 d_Master_sendResult_23 hv (fun H locs X => ?_)
  refine lv_aload hx hb d_Master_sendResult_26 (lv_at hl 0 rfl) ?_
  obtain ⟨rfl, rfl⟩ := Prod.mk.inj (Option.some.inj h)
  exact xr_aret (v := (some a5)) C X hlk hr d_Master_sendResult_28 rfl (Nat.le_of_ble_eq_true rfl) (Nat.le_of_ble_eq_true rfl)
theorem kc_Master_sendResult (l : Launch) (E : xe) {th : Nat} {x1 : Int32} {x2 : Int32} {x3 : Int32} {x4 : Nat} {r : Option Nat} (h : kf_Master_sendResult_0 K th x1 x2 x3 x4 = some (r, K')) : Met l y_Master_sendResult (Cond.code y_Master_sendResult b_Master_sendResult 6 (some (.object "EpochStore$Message")) :: w_all) { frames := 2, cells := 0, slots := 0, locals := 47 } (va_Pc [.ref th, .int x1, .int x2, .int x3, .ref x4] (fun U => xx_B E K M U)) (xq_r E K' M r) 0 0 (xe_A E) :=
  xr_met (by decide) (Nat.le_of_ble_eq_true rfl) fun p e s m below meth c ls C X hlk hr hin hl => kw_Master_sendResult_0 C hlk hr hin X hl h
set_option maxHeartbeats 4000000 in
set_option maxRecDepth 100000 in
theorem kw_Master_findsConflict_42 {rec4 : xk → Nat → Int32 → Nat → Int32 → Option (Int32 × xk)} {th : Nat} {x1 : Int32} {x2 : Nat} {x3 : Int32} {r : Int32} (C : xx_C p m c b_Master_findsConflict 4 s args Rn_Master E) (hlk : meth.locks = false) (hr : meth.sig.returnType = (some .boolean)) (hin : meth.name = "findsConflict") (hrec4 : ∀ {H : Heap} {locs : List Loc} {ls : Array Slot} {K : xk} {th : Nat} {x1 : Int32} {x2 : Nat} {x3 : Int32}, xx_S E K M s H locs → lv_has ls 4 [(0, .ref th), (1, .int x1), (2, .ref x2), (3, .int x3)] → rec4 K th x1 x2 x3 = some (r, K') → W p l e { frames := 0, cells := 0, slots := 0, locals := 0 } s m args below meth c H locs 0 0 (MQ below (xq_i E K' M r) args s 0 0 (xe_A E)) (F0 m 4 ls [])) (X : xx_S E K M s H locs) (hl : lv_has ls 4 [(0, .ref th), (1, .int x1), (2, .ref x2), (3, .int x3)]) (h : kf_Master_findsConflict_42 rec4 K th x1 x2 x3 = some (r, K')) : W p l e { frames := 0, cells := 0, slots := 0, locals := 0 } s m args below meth c H locs 0 0 (MQ below (xq_i E K' M r) args s 0 0 (xe_A E)) (F0 m 42 ls []) := by
  have hx := C.1.1
  have hb := C.1.2.1
  unfold kf_Master_findsConflict_42 at h
  refine lv_goto (tgt := 4) hx hb d_Master_findsConflict_42 (by decide +kernel) ?_
  exact hrec4 (th := th) (x1 := x1) (x2 := x2) (x3 := x3) X (lv_sub hl [0, 1, 2, 3] rfl) h
set_option maxHeartbeats 4000000 in
set_option maxRecDepth 100000 in
theorem kwb_Master_findsConflict_4 {rec4 : xk → Nat → Int32 → Nat → Int32 → Option (Int32 × xk)} {th : Nat} {x1 : Int32} {x2 : Nat} {x3 : Int32} {r : Int32} (C : xx_C p m c b_Master_findsConflict 4 s args Rn_Master E) (hlk : meth.locks = false) (hr : meth.sig.returnType = (some .boolean)) (hin : meth.name = "findsConflict") (hrec4 : ∀ {H : Heap} {locs : List Loc} {ls : Array Slot} {K : xk} {th : Nat} {x1 : Int32} {x2 : Nat} {x3 : Int32}, xx_S E K M s H locs → lv_has ls 4 [(0, .ref th), (1, .int x1), (2, .ref x2), (3, .int x3)] → rec4 K th x1 x2 x3 = some (r, K') → W p l e { frames := 0, cells := 0, slots := 0, locals := 0 } s m args below meth c H locs 0 0 (MQ below (xq_i E K' M r) args s 0 0 (xe_A E)) (F0 m 4 ls [])) (X : xx_S E K M s H locs) (hl : lv_has ls 4 [(0, .ref th), (1, .int x1), (2, .ref x2), (3, .int x3)]) (h : kb_Master_findsConflict_4 rec4 K th x1 x2 x3 = some (r, K')) : W p l e { frames := 0, cells := 0, slots := 0, locals := 0 } s m args below meth c H locs 0 0 (MQ below (xq_i E K' M r) args s 0 0 (xe_A E)) (F0 m 4 ls []) := by
  have hx := C.1.1
  have hb := C.1.2.1
  unfold kb_Master_findsConflict_4 at h
  refine lv_iload_n hx hb d_Master_findsConflict_4 rfl (lv_at hl 3 rfl) ?_
  refine lv_iload_n hx hb d_Master_findsConflict_5 rfl (lv_at hl 1 rfl) ?_
  refine lv_iconst hx hb d_Master_findsConflict_6 kn_i_1 ?_
  refine lv_iadd hx hb d_Master_findsConflict_7 ?_
  refine lv_iconst hx hb d_Master_findsConflict_8 kn_i_4 ?_
  refine lv_imul hx hb d_Master_findsConflict_9 ?_
  refine lv_icmp_ge (tgt := 45) hx hb d_Master_findsConflict_10 (by decide +kernel) (fun hc => ?_) (fun hc => ?_)
  · rw [if_pos hc] at h
    refine lv_iconst hx hb d_Master_findsConflict_45 kn_i_0 ?_
    obtain ⟨rfl, rfl⟩ := Prod.mk.inj (Option.some.inj h)
    exact xr_zret C X hlk hr d_Master_findsConflict_46 rfl (Nat.le_of_ble_eq_true rfl) (Nat.le_of_ble_eq_true rfl)
  · rw [if_neg hc] at h
    refine lv_aload_n hx hb d_Master_findsConflict_13 rfl (lv_at hl 2 rfl) ?_
    replace h := xb h
    obtain ⟨v1, hv, h⟩ := h
    refine xr_gi C X xc_Message (by decide) 7 (by decide) (by decide) rfl m_267 d_Master_findsConflict_14 hv ?_
    refine lv_iconst hx hb d_Master_findsConflict_17 kn_i_1 ?_
    refine lv_iload_n hx hb d_Master_findsConflict_18 rfl (lv_at hl 3 rfl) ?_
    refine lv_ishl hx hb d_Master_findsConflict_19 ?_
    refine lv_iand hx hb d_Master_findsConflict_20 ?_
    refine lv_if_eq (tgt := 39) hx hb d_Master_findsConflict_21 (by decide +kernel) (fun hc => ?_) (fun hc => ?_)
    · rw [if_pos hc] at h
      refine lv_iinc (k := 3) (v := (x3 + (1 : Int32))) hx hb d_Master_findsConflict_39 hl rfl (congrArg (fun y : Int32 => x3 + y) kn_i_1) (by decide) rfl (fun ls hl => ?_)
      have hl : lv_has ls 4 [(3, .int (x3 + (1 : Int32))), (0, .ref th), (1, .int x1), (2, .ref x2)] := hl
      exact kw_Master_findsConflict_42 (th := th) (x1 := x1) (x2 := x2) (x3 := (x3 + (1 : Int32))) C hlk hr hin hrec4  X (lv_sub hl [1, 2, 3, 0] rfl) h
    · rw [if_neg hc] at h
      refine lv_aload_n hx hb d_Master_findsConflict_24 rfl (lv_at hl 0 rfl) ?_
      replace h := xb h
      obtain ⟨v2, hv, h⟩ := h
      refine xr_gr C X xc_Master (by decide) 6 (by decide) (by decide) rfl m_44 d_Master_findsConflict_25 hv ?_
      refine lv_iload_n hx hb d_Master_findsConflict_28 rfl (lv_at hl 3 rfl) ?_
      replace h := xb h
      obtain ⟨a4, rfl, h⟩ := h
      replace h := xb h
      obtain ⟨v3, hv, h⟩ := h
      refine xr_iald C X 0 (by decide) rfl rfl d_Master_findsConflict_29 hv ?_
      refine lv_aload_n hx hb d_Master_findsConflict_30 rfl (lv_at hl 2 rfl) ?_
      replace h := xb h
      obtain ⟨v5, hv, h⟩ := h
      refine xr_gi C X xc_Message (by decide) 3 (by decide) (by decide) rfl m_252 d_Master_findsConflict_31 hv ?_
      refine lv_icmp_le (tgt := 39) hx hb d_Master_findsConflict_34 (by decide +kernel) (fun hc => ?_) (fun hc => ?_)
      · rw [if_pos hc] at h
        refine lv_iinc (k := 3) (v := (x3 + (1 : Int32))) hx hb d_Master_findsConflict_39 hl rfl (congrArg (fun y : Int32 => x3 + y) kn_i_1) (by decide) rfl (fun ls hl => ?_)
        have hl : lv_has ls 4 [(3, .int (x3 + (1 : Int32))), (0, .ref th), (1, .int x1), (2, .ref x2)] := hl
        exact kw_Master_findsConflict_42 (th := th) (x1 := x1) (x2 := x2) (x3 := (x3 + (1 : Int32))) C hlk hr hin hrec4  X (lv_sub hl [1, 2, 3, 0] rfl) h
      · rw [if_neg hc] at h
        refine lv_iconst hx hb d_Master_findsConflict_37 kn_i_1 ?_
        obtain ⟨rfl, rfl⟩ := Prod.mk.inj (Option.some.inj h)
        exact xr_zret C X hlk hr d_Master_findsConflict_38 rfl (Nat.le_of_ble_eq_true rfl) (Nat.le_of_ble_eq_true rfl)
theorem kw_Master_findsConflict_4 {r : Int32} (C : xx_C p m c b_Master_findsConflict 4 s args Rn_Master E) (hlk : meth.locks = false) (hr : meth.sig.returnType = (some .boolean)) (hin : meth.name = "findsConflict") : ∀ (n : Nat) {H : Heap} {locs : List Loc} {ls : Array Slot} {K : xk} {th : Nat} {x1 : Int32} {x2 : Nat} {x3 : Int32}, xx_S E K M s H locs → lv_has ls 4 [(0, .ref th), (1, .int x1), (2, .ref x2), (3, .int x3)] → kf_Master_findsConflict_4 n K th x1 x2 x3 = some (r, K') → W p l e { frames := 0, cells := 0, slots := 0, locals := 0 } s m args below meth c H locs 0 0 (MQ below (xq_i E K' M r) args s 0 0 (xe_A E)) (F0 m 4 ls []) := by
  intro n
  induction n with
  | zero => intro H locs ls K th x1 x2 x3 X hl h; exact nomatch (show (none : Option (Int32 × xk)) = some _ from h)
  | succ n ih => intro H locs ls K th x1 x2 x3 X hl h; exact kwb_Master_findsConflict_4 C hlk hr hin ih X hl h
set_option maxHeartbeats 4000000 in
set_option maxRecDepth 100000 in
theorem kw_Master_findsConflict_0 {th : Nat} {x1 : Int32} {x2 : Nat} {r : Int32} (C : xx_C p m c b_Master_findsConflict 4 s args Rn_Master E) (hlk : meth.locks = false) (hr : meth.sig.returnType = (some .boolean)) (hin : meth.name = "findsConflict") (X : xx_S E K M s H locs) (hl : lv_has ls 4 [(0, .ref th), (1, .int x1), (2, .ref x2)]) (h : kf_Master_findsConflict_0 K th x1 x2 = some (r, K')) : W p l e { frames := 0, cells := 0, slots := 0, locals := 0 } s m args below meth c H locs 0 0 (MQ below (xq_i E K' M r) args s 0 0 (xe_A E)) (F0 m 0 ls []) := by
  have hx := C.1.1
  have hb := C.1.2.1
  unfold kf_Master_findsConflict_0 at h
  refine lv_iload_n hx hb d_Master_findsConflict_0 rfl (lv_at hl 1 rfl) ?_
  refine lv_iconst hx hb d_Master_findsConflict_1 kn_i_4 ?_
  refine lv_imul hx hb d_Master_findsConflict_2 ?_
  refine lv_istore_n hx hb d_Master_findsConflict_3 rfl hl (by decide) rfl (fun ls hl => ?_)
  have hl : lv_has ls 4 [(3, .int (x1 * (4 : Int32))), (0, .ref th), (1, .int x1), (2, .ref x2)] := hl
  exact kw_Master_findsConflict_4 C hlk hr hin 1000 X (lv_sub hl [1, 2, 3, 0] rfl) h
theorem kc_Master_findsConflict (l : Launch) (E : xe) {th : Nat} {x1 : Int32} {x2 : Nat} {r : Int32} (h : kf_Master_findsConflict_0 K th x1 x2 = some (r, K')) : Met l y_Master_findsConflict (Cond.code y_Master_findsConflict b_Master_findsConflict 4 (some .boolean) :: w_all) { frames := 0, cells := 0, slots := 0, locals := 0 } (va_Pc [.ref th, .int x1, .ref x2] (fun U => xx_B E K M U)) (xq_i E K' M r) 0 0 (xe_A E) :=
  xr_met (by decide) (Nat.le_of_ble_eq_true rfl) fun p e s m below meth c ls C X hlk hr hin hl => kw_Master_findsConflict_0 C hlk hr hin X hl h
set_option maxHeartbeats 4000000 in
set_option maxRecDepth 100000 in
theorem kwb_Master_letPass_4 {rec4 : xk → Nat → Int32 → Nat → Int32 → Option xk} {th : Nat} {x1 : Int32} {x2 : Nat} {x3 : Int32} (C : xx_C p m c b_Master_letPass 4 s args Rn_Master E) (hlk : meth.locks = false) (hr : meth.sig.returnType = none) (hin : meth.name = "letPass") (hrec4 : ∀ {H : Heap} {locs : List Loc} {ls : Array Slot} {K : xk} {th : Nat} {x1 : Int32} {x2 : Nat} {x3 : Int32}, xx_S E K M s H locs → lv_has ls 4 [(0, .ref th), (1, .int x1), (2, .ref x2), (3, .int x3)] → rec4 K th x1 x2 x3 = some K' → W p l e { frames := 1, cells := 0, slots := 0, locals := 21 } s m args below meth c H locs 0 0 (MQ below (xq_v E K' M) args s 0 0 (xe_A E)) (F0 m 4 ls [])) (X : xx_S E K M s H locs) (hl : lv_has ls 4 [(0, .ref th), (1, .int x1), (2, .ref x2), (3, .int x3)]) (h : kb_Master_letPass_4 rec4 K th x1 x2 x3 = some K') : W p l e { frames := 1, cells := 0, slots := 0, locals := 21 } s m args below meth c H locs 0 0 (MQ below (xq_v E K' M) args s 0 0 (xe_A E)) (F0 m 4 ls []) := by
  have hx := C.1.1
  have hb := C.1.2.1
  unfold kb_Master_letPass_4 at h
  refine lv_iload_n hx hb d_Master_letPass_4 rfl (lv_at hl 3 rfl) ?_
  refine lv_iload_n hx hb d_Master_letPass_5 rfl (lv_at hl 1 rfl) ?_
  refine lv_iconst hx hb d_Master_letPass_6 kn_i_1 ?_
  refine lv_iadd hx hb d_Master_letPass_7 ?_
  refine lv_iconst hx hb d_Master_letPass_8 kn_i_4 ?_
  refine lv_imul hx hb d_Master_letPass_9 ?_
  refine lv_icmp_ge (tgt := 37) hx hb d_Master_letPass_10 (by decide +kernel) (fun hc => ?_) (fun hc => ?_)
  · rw [if_pos hc] at h
    obtain rfl := Option.some.inj h
    exact xr_vret C X hlk hr d_Master_letPass_37 (Nat.le_of_ble_eq_true rfl) (Nat.le_of_ble_eq_true rfl)
  · rw [if_neg hc] at h
    refine lv_aload_n hx hb d_Master_letPass_13 rfl (lv_at hl 2 rfl) ?_
    refine lv_iload_n hx hb d_Master_letPass_14 rfl (lv_at hl 3 rfl) ?_
    replace h := xb h
    obtain ⟨_, hO2, h⟩ := h
    replace h := xpb h
    obtain ⟨r3, K1, hv, h⟩ := h
    refine xr_ki (va_runV (As := [.int x3]) (rest := []) C.1 (kc_Writes_has l E hv) (cwV 1 C.1.2.2.2.2 (xw_V m_268 m_153 m_154 m_38 m_155) rfl rfl rfl ky_Writes_has ⟨(Nat.le_of_ble_eq_true rfl), (Nat.le_of_ble_eq_true rfl)⟩) (xr_pV C X xc_Writes.1 (xk_Xo (xOk hO2) (by decide))) rfl rfl hl.1 rfl (lv_room (Nat.le_of_ble_eq_true rfl)) d_Master_letPass_15 ⟨(Nat.le_of_ble_eq_true rfl), (Nat.le_of_ble_eq_true rfl)⟩) X (fun H locs X => ?_)
    refine lv_if_eq (tgt := 31) hx hb d_Master_letPass_18 (by decide +kernel) (fun hc => ?_) (fun hc => ?_)
    · rw [if_pos hc] at h
      refine lv_iinc (k := 3) (v := (x3 + (1 : Int32))) hx hb d_Master_letPass_31 hl rfl (congrArg (fun y : Int32 => x3 + y) kn_i_1) (by decide) rfl (fun ls hl => ?_)
      have hl : lv_has ls 4 [(3, .int (x3 + (1 : Int32))), (0, .ref th), (1, .int x1), (2, .ref x2)] := hl
      refine lv_goto (tgt := 4) hx hb d_Master_letPass_34 (by decide +kernel) ?_
      exact hrec4 (th := th) (x1 := x1) (x2 := x2) (x3 := (x3 + (1 : Int32))) X (lv_sub hl [1, 2, 3, 0] rfl) h
    · rw [if_neg hc] at h
      refine lv_aload_n hx hb d_Master_letPass_21 rfl (lv_at hl 0 rfl) ?_
      replace h := xb h
      obtain ⟨v4, hv, h⟩ := h
      refine xr_gr C X xc_Master (by decide) 6 (by decide) (by decide) rfl m_44 d_Master_letPass_22 hv ?_
      refine lv_iload_n hx hb d_Master_letPass_25 rfl (lv_at hl 3 rfl) ?_
      refine lv_aload_n hx hb d_Master_letPass_26 rfl (lv_at hl 0 rfl) ?_
      replace h := xb h
      obtain ⟨v5, hv, h⟩ := h
      refine xr_gi C X xc_Master (by decide) 3 (by decide) (by decide) rfl m_52 d_Master_letPass_27 hv ?_
      replace h := xb h
      obtain ⟨a7, rfl, h⟩ := h
      replace h := xb h
      obtain ⟨K6, hv, h⟩ := h
      refine xr_iast C X 0 (by decide) rfl rfl d_Master_letPass_30 hv (fun H locs X => ?_)
      refine lv_iinc (k := 3) (v := (x3 + (1 : Int32))) hx hb d_Master_letPass_31 hl rfl (congrArg (fun y : Int32 => x3 + y) kn_i_1) (by decide) rfl (fun ls hl => ?_)
      have hl : lv_has ls 4 [(3, .int (x3 + (1 : Int32))), (0, .ref th), (1, .int x1), (2, .ref x2)] := hl
      refine lv_goto (tgt := 4) hx hb d_Master_letPass_34 (by decide +kernel) ?_
      exact hrec4 (th := th) (x1 := x1) (x2 := x2) (x3 := (x3 + (1 : Int32))) X (lv_sub hl [1, 2, 3, 0] rfl) h
theorem kw_Master_letPass_4 (C : xx_C p m c b_Master_letPass 4 s args Rn_Master E) (hlk : meth.locks = false) (hr : meth.sig.returnType = none) (hin : meth.name = "letPass") : ∀ (n : Nat) {H : Heap} {locs : List Loc} {ls : Array Slot} {K : xk} {th : Nat} {x1 : Int32} {x2 : Nat} {x3 : Int32}, xx_S E K M s H locs → lv_has ls 4 [(0, .ref th), (1, .int x1), (2, .ref x2), (3, .int x3)] → kf_Master_letPass_4 n K th x1 x2 x3 = some K' → W p l e { frames := 1, cells := 0, slots := 0, locals := 21 } s m args below meth c H locs 0 0 (MQ below (xq_v E K' M) args s 0 0 (xe_A E)) (F0 m 4 ls []) := by
  intro n
  induction n with
  | zero => intro H locs ls K th x1 x2 x3 X hl h; exact nomatch (show (none : Option xk) = some _ from h)
  | succ n ih => intro H locs ls K th x1 x2 x3 X hl h; exact kwb_Master_letPass_4 C hlk hr hin ih X hl h
set_option maxHeartbeats 4000000 in
set_option maxRecDepth 100000 in
theorem kw_Master_letPass_0 {th : Nat} {x1 : Int32} {x2 : Nat} (C : xx_C p m c b_Master_letPass 4 s args Rn_Master E) (hlk : meth.locks = false) (hr : meth.sig.returnType = none) (hin : meth.name = "letPass") (X : xx_S E K M s H locs) (hl : lv_has ls 4 [(0, .ref th), (1, .int x1), (2, .ref x2)]) (h : kf_Master_letPass_0 K th x1 x2 = some K') : W p l e { frames := 1, cells := 0, slots := 0, locals := 21 } s m args below meth c H locs 0 0 (MQ below (xq_v E K' M) args s 0 0 (xe_A E)) (F0 m 0 ls []) := by
  have hx := C.1.1
  have hb := C.1.2.1
  unfold kf_Master_letPass_0 at h
  refine lv_iload_n hx hb d_Master_letPass_0 rfl (lv_at hl 1 rfl) ?_
  refine lv_iconst hx hb d_Master_letPass_1 kn_i_4 ?_
  refine lv_imul hx hb d_Master_letPass_2 ?_
  refine lv_istore_n hx hb d_Master_letPass_3 rfl hl (by decide) rfl (fun ls hl => ?_)
  have hl : lv_has ls 4 [(3, .int (x1 * (4 : Int32))), (0, .ref th), (1, .int x1), (2, .ref x2)] := hl
  exact kw_Master_letPass_4 C hlk hr hin 1000 X (lv_sub hl [1, 2, 3, 0] rfl) h
theorem kc_Master_letPass (l : Launch) (E : xe) {th : Nat} {x1 : Int32} {x2 : Nat} (h : kf_Master_letPass_0 K th x1 x2 = some K') : Met l y_Master_letPass (Cond.code y_Master_letPass b_Master_letPass 4 none :: w_all) { frames := 1, cells := 0, slots := 0, locals := 21 } (va_Pc [.ref th, .int x1, .ref x2] (fun U => xx_B E K M U)) (xq_v E K' M) 0 0 (xe_A E) :=
  xr_met (by decide) (Nat.le_of_ble_eq_true rfl) fun p e s m below meth c ls C X hlk hr hin hl => kw_Master_letPass_0 C hlk hr hin X hl h
set_option maxHeartbeats 4000000 in
set_option maxRecDepth 100000 in
theorem kwb_Master_passesResolvers_4 {rec4 : xk → Nat → Nat → Int32 → Int32 → Option (Int32 × xk)} {th : Nat} {x1 : Nat} {x2 : Int32} {x3 : Int32} {r : Int32} (C : xx_C p m c b_Master_passesResolvers 4 s args Rn_Master E) (hlk : meth.locks = false) (hr : meth.sig.returnType = (some .boolean)) (hin : meth.name = "passesResolvers") (hrec4 : ∀ {H : Heap} {locs : List Loc} {ls : Array Slot} {K : xk} {th : Nat} {x1 : Nat} {x2 : Int32} {x3 : Int32}, xx_S E K M s H locs → lv_has ls 4 [(0, .ref th), (1, .ref x1), (2, .int x2), (3, .int x3)] → rec4 K th x1 x2 x3 = some (r, K') → W p l e { frames := 2, cells := 0, slots := 0, locals := 44 } s m args below meth c H locs 0 0 (MQ below (xq_i E K' M r) args s 0 0 (xe_A E)) (F0 m 4 ls [])) (X : xx_S E K M s H locs) (hl : lv_has ls 4 [(0, .ref th), (1, .ref x1), (2, .int x2), (3, .int x3)]) (h : kb_Master_passesResolvers_4 rec4 K th x1 x2 x3 = some (r, K')) : W p l e { frames := 2, cells := 0, slots := 0, locals := 44 } s m args below meth c H locs 0 0 (MQ below (xq_i E K' M r) args s 0 0 (xe_A E)) (F0 m 4 ls []) := by
  have hx := C.1.1
  have hb := C.1.2.1
  unfold kb_Master_passesResolvers_4 at h
  refine lv_iload_n hx hb d_Master_passesResolvers_4 rfl (lv_at hl 3 rfl) ?_
  refine lv_iconst hx hb d_Master_passesResolvers_5 kn_i_2 ?_
  refine lv_icmp_ge (tgt := 38) hx hb d_Master_passesResolvers_6 (by decide +kernel) (fun hc => ?_) (fun hc => ?_)
  · rw [if_pos hc] at h
    refine lv_iload_n hx hb d_Master_passesResolvers_38 rfl (lv_at hl 2 rfl) ?_
    replace h := xb h
    obtain ⟨z1, hz, h⟩ := h
    obtain ⟨rfl, rfl⟩ := Prod.mk.inj (Option.some.inj h)
    exact xr_zret C X hlk hr d_Master_passesResolvers_39 hz (Nat.le_of_ble_eq_true rfl) (Nat.le_of_ble_eq_true rfl)
  · rw [if_neg hc] at h
    refine lv_aload_n hx hb d_Master_passesResolvers_9 rfl (lv_at hl 0 rfl) ?_
    refine lv_iload_n hx hb d_Master_passesResolvers_10 rfl (lv_at hl 3 rfl) ?_
    refine lv_aload_n hx hb d_Master_passesResolvers_11 rfl (lv_at hl 1 rfl) ?_
    replace h := xb h
    obtain ⟨_, hO3, h⟩ := h
    replace h := xpb h
    obtain ⟨r4, K2, hv, h⟩ := h
    refine xr_ki (va_runV (As := [.int x3, .ref x1]) (rest := []) C.1 (kc_Master_findsConflict l E hv) (cwV 2 C.1.2.2.2.2 (xw_V m_269 m_270 m_271 m_93 m_272) rfl rfl rfl ky_Master_findsConflict ⟨(Nat.le_of_ble_eq_true rfl), (Nat.le_of_ble_eq_true rfl)⟩) (xr_pV C X xc_Master.1 (xk_Xo (xOk hO3) (by decide))) rfl rfl hl.1 rfl (lv_room (Nat.le_of_ble_eq_true rfl)) d_Master_passesResolvers_12 ⟨(Nat.le_of_ble_eq_true rfl), (Nat.le_of_ble_eq_true rfl)⟩) X (fun H locs X => ?_)
    refine lv_if_eq (tgt := 23) hx hb d_Master_passesResolvers_15 (by decide +kernel) (fun hc => ?_) (fun hc => ?_)
    · rw [if_pos hc] at h
      refine lv_aload_n hx hb d_Master_passesResolvers_23 rfl (lv_at hl 0 rfl) ?_
      refine lv_iload_n hx hb d_Master_passesResolvers_24 rfl (lv_at hl 3 rfl) ?_
      refine lv_aload_n hx hb d_Master_passesResolvers_25 rfl (lv_at hl 1 rfl) ?_
      replace h := xb h
      obtain ⟨v5, hv, h⟩ := h
      refine xr_gr C X xc_Message (by decide) 8 (by decide) (by decide) rfl m_273 d_Master_passesResolvers_26 hv ?_
      replace h := xb h
      obtain ⟨a6, rfl, h⟩ := h
      replace h := xb h
      obtain ⟨_, hO8, h⟩ := h
      replace h := xb h
      obtain ⟨K7, hv, h⟩ := h
      refine xr_kv (va_runV (As := [.int x3, .ref a6]) (rest := []) C.1 (kc_Master_letPass l E hv) (cwV 2 C.1.2.2.2.2 (xw_V m_274 m_275 m_276 m_93 m_277) rfl rfl rfl ky_Master_letPass ⟨(Nat.le_of_ble_eq_true rfl), (Nat.le_of_ble_eq_true rfl)⟩) (xr_pV C X xc_Master.1 (xk_Xo (xOk hO8) (by decide))) rfl rfl hl.1 rfl (lv_room (Nat.le_of_ble_eq_true rfl)) d_Master_passesResolvers_29 ⟨(Nat.le_of_ble_eq_true rfl), (Nat.le_of_ble_eq_true rfl)⟩) X (fun H locs X => ?_)
      refine lv_iinc (k := 3) (v := (x3 + (1 : Int32))) hx hb d_Master_passesResolvers_32 hl rfl (congrArg (fun y : Int32 => x3 + y) kn_i_1) (by decide) rfl (fun ls hl => ?_)
      have hl : lv_has ls 4 [(3, .int (x3 + (1 : Int32))), (0, .ref th), (1, .ref x1), (2, .int x2)] := hl
      refine lv_goto (tgt := 4) hx hb d_Master_passesResolvers_35 (by decide +kernel) ?_
      exact hrec4 (th := th) (x1 := x1) (x2 := x2) (x3 := (x3 + (1 : Int32))) X (lv_sub hl [1, 2, 3, 0] rfl) h
    · rw [if_neg hc] at h
      refine lv_iconst hx hb d_Master_passesResolvers_18 kn_i_0 ?_
      refine lv_istore_n hx hb d_Master_passesResolvers_19 rfl hl (by decide) rfl (fun ls hl => ?_)
      have hl : lv_has ls 4 [(2, .int (0 : Int32)), (0, .ref th), (1, .ref x1), (3, .int x3)] := hl
      refine lv_goto (tgt := 32) hx hb d_Master_passesResolvers_20 (by decide +kernel) ?_
      refine lv_iinc (k := 3) (v := (x3 + (1 : Int32))) hx hb d_Master_passesResolvers_32 hl rfl (congrArg (fun y : Int32 => x3 + y) kn_i_1) (by decide) rfl (fun ls hl => ?_)
      have hl : lv_has ls 4 [(3, .int (x3 + (1 : Int32))), (2, .int (0 : Int32)), (0, .ref th), (1, .ref x1)] := hl
      refine lv_goto (tgt := 4) hx hb d_Master_passesResolvers_35 (by decide +kernel) ?_
      exact hrec4 (th := th) (x1 := x1) (x2 := (0 : Int32)) (x3 := (x3 + (1 : Int32))) X (lv_sub hl [2, 3, 1, 0] rfl) h
theorem kw_Master_passesResolvers_4 {r : Int32} (C : xx_C p m c b_Master_passesResolvers 4 s args Rn_Master E) (hlk : meth.locks = false) (hr : meth.sig.returnType = (some .boolean)) (hin : meth.name = "passesResolvers") : ∀ (n : Nat) {H : Heap} {locs : List Loc} {ls : Array Slot} {K : xk} {th : Nat} {x1 : Nat} {x2 : Int32} {x3 : Int32}, xx_S E K M s H locs → lv_has ls 4 [(0, .ref th), (1, .ref x1), (2, .int x2), (3, .int x3)] → kf_Master_passesResolvers_4 n K th x1 x2 x3 = some (r, K') → W p l e { frames := 2, cells := 0, slots := 0, locals := 44 } s m args below meth c H locs 0 0 (MQ below (xq_i E K' M r) args s 0 0 (xe_A E)) (F0 m 4 ls []) := by
  intro n
  induction n with
  | zero => intro H locs ls K th x1 x2 x3 X hl h; exact nomatch (show (none : Option (Int32 × xk)) = some _ from h)
  | succ n ih => intro H locs ls K th x1 x2 x3 X hl h; exact kwb_Master_passesResolvers_4 C hlk hr hin ih X hl h
set_option maxHeartbeats 4000000 in
set_option maxRecDepth 100000 in
theorem kw_Master_passesResolvers_0 {th : Nat} {x1 : Nat} {r : Int32} (C : xx_C p m c b_Master_passesResolvers 4 s args Rn_Master E) (hlk : meth.locks = false) (hr : meth.sig.returnType = (some .boolean)) (hin : meth.name = "passesResolvers") (X : xx_S E K M s H locs) (hl : lv_has ls 4 [(0, .ref th), (1, .ref x1)]) (h : kf_Master_passesResolvers_0 K th x1 = some (r, K')) : W p l e { frames := 2, cells := 0, slots := 0, locals := 44 } s m args below meth c H locs 0 0 (MQ below (xq_i E K' M r) args s 0 0 (xe_A E)) (F0 m 0 ls []) := by
  have hx := C.1.1
  have hb := C.1.2.1
  unfold kf_Master_passesResolvers_0 at h
  refine lv_iconst hx hb d_Master_passesResolvers_0 kn_i_1 ?_
  refine lv_istore_n hx hb d_Master_passesResolvers_1 rfl hl (by decide) rfl (fun ls hl => ?_)
  have hl : lv_has ls 4 [(2, .int (1 : Int32)), (0, .ref th), (1, .ref x1)] := hl
  refine lv_iconst hx hb d_Master_passesResolvers_2 kn_i_0 ?_
  refine lv_istore_n hx hb d_Master_passesResolvers_3 rfl hl (by decide) rfl (fun ls hl => ?_)
  have hl : lv_has ls 4 [(3, .int (0 : Int32)), (2, .int (1 : Int32)), (0, .ref th), (1, .ref x1)] := hl
  exact kw_Master_passesResolvers_4 C hlk hr hin 1000 X (lv_sub hl [2, 3, 1, 0] rfl) h
theorem kc_Master_passesResolvers (l : Launch) (E : xe) {th : Nat} {x1 : Nat} {r : Int32} (h : kf_Master_passesResolvers_0 K th x1 = some (r, K')) : Met l y_Master_passesResolvers (Cond.code y_Master_passesResolvers b_Master_passesResolvers 4 (some .boolean) :: w_all) { frames := 2, cells := 0, slots := 0, locals := 44 } (va_Pc [.ref th, .ref x1] (fun U => xx_B E K M U)) (xq_i E K' M r) 0 0 (xe_A E) :=
  xr_met (by decide) (Nat.le_of_ble_eq_true rfl) fun p e s m below meth c ls C X hlk hr hin hl => kw_Master_passesResolvers_0 C hlk hr hin X hl h
set_option maxHeartbeats 4000000 in
set_option maxRecDepth 100000 in
theorem kw_Entry_init_0 {th : Nat} {x1 : Int32} {x2 : Int32} {x3 : Nat} (C : xx_C p m c b_Entry_init 4 s args Rn_Entry E) (hlk : meth.locks = false) (hr : meth.sig.returnType = none) (hin : meth.name = "<init>") (X : xx_S E K M s H locs) (hl : lv_has ls 4 [(0, .ref th), (1, .int x1), (2, .int x2), (3, .ref x3)]) (h : kf_Entry_init_0 K th x1 x2 x3 = some K') : W p l e { frames := 1, cells := 0, slots := 0, locals := 20 } s m args below meth c H locs 0 0 (MQ below (xq_v E K' M) args s 0 0 (xe_A E)) (F0 m 0 ls []) := by
  have hx := C.1.1
  have hb := C.1.2.1
  unfold kf_Entry_init_0 at h
  refine lv_aload_n hx hb d_Entry_init_0 rfl (lv_at hl 0 rfl) ?_
  refine W.objInit hx hb C.1.2.2.2.1 (C.1.2.2.2.2 _ m_278) (C.1.2.2.2.2 _ m_1) (C.1.2.2.2.2 _ m_2) rfl (by rw [C.1.2.2.1]; exact hl.1) rfl d_Entry_init_1 (Nat.le_of_ble_eq_true rfl) (Nat.le_of_ble_eq_true rfl) ?_
  refine W.eq (g2 := F0 m 4 ls []) rfl ?_
  refine lv_aload_n hx hb d_Entry_init_4 rfl (lv_at hl 0 rfl) ?_
  refine lv_iload_n hx hb d_Entry_init_5 rfl (lv_at hl 1 rfl) ?_
  replace h := xb h
  obtain ⟨K1, hv, h⟩ := h
  refine xr_piF C X xc_Entry (by decide) 0 (by decide) (by decide) rfl rfl rfl hin rfl m_279 d_Entry_init_6 hv (fun H locs X => ?_)
  refine lv_aload_n hx hb d_Entry_init_9 rfl (lv_at hl 0 rfl) ?_
  refine lv_iload_n hx hb d_Entry_init_10 rfl (lv_at hl 2 rfl) ?_
  replace h := xb h
  obtain ⟨K2, hv, h⟩ := h
  refine xr_piF C X xc_Entry (by decide) 1 (by decide) (by decide) rfl rfl rfl hin rfl m_280 d_Entry_init_11 hv (fun H locs X => ?_)
  refine lv_aload_n hx hb d_Entry_init_14 rfl (lv_at hl 0 rfl) ?_
  refine lv_aload_n hx hb d_Entry_init_15 rfl (lv_at hl 3 rfl) ?_
  replace h := xb h
  obtain ⟨K3, hv, h⟩ := h
  refine xr_prF (v := (some x3)) C X xc_Entry (by decide) 2 (by decide) (by decide) rfl (Or.inl ⟨_, rfl⟩) rfl hin rfl m_281 d_Entry_init_16 hv (fun H locs X => ?_)
  obtain rfl := Option.some.inj h
  exact xr_vret C X hlk hr d_Entry_init_19 (Nat.le_of_ble_eq_true rfl) (Nat.le_of_ble_eq_true rfl)
theorem kc_Entry_init (l : Launch) (E : xe) {th : Nat} {x1 : Int32} {x2 : Int32} {x3 : Nat} (h : kf_Entry_init_0 K th x1 x2 x3 = some K') : Met l y_Entry_init (Cond.code y_Entry_init b_Entry_init 4 none :: w_all) { frames := 1, cells := 0, slots := 0, locals := 20 } (va_Pc [.ref th, .int x1, .int x2, .ref x3] (fun U => xx_B E K M U)) (xq_v E K' M) 0 0 (xe_A E) :=
  xr_met (by decide) (Nat.le_of_ble_eq_true rfl) fun p e s m below meth c ls C X hlk hr hin hl => kw_Entry_init_0 C hlk hr hin X hl h
set_option maxHeartbeats 4000000 in
set_option maxRecDepth 100000 in
theorem kw_OnWay_init_0 {th : Nat} {x1 : Nat} {x2 : Int32} {x3 : Int32} (C : xx_C p m c b_OnWay_init 4 s args Rn_OnWay E) (hlk : meth.locks = false) (hr : meth.sig.returnType = none) (hin : meth.name = "<init>") (X : xx_S E K M s H locs) (hl : lv_has ls 4 [(0, .ref th), (1, .ref x1), (2, .int x2), (3, .int x3)]) (h : kf_OnWay_init_0 K th x1 x2 x3 = some K') : W p l e { frames := 1, cells := 0, slots := 0, locals := 20 } s m args below meth c H locs 0 0 (MQ below (xq_v E K' M) args s 0 0 (xe_A E)) (F0 m 0 ls []) := by
  have hx := C.1.1
  have hb := C.1.2.1
  unfold kf_OnWay_init_0 at h
  refine lv_aload_n hx hb d_OnWay_init_0 rfl (lv_at hl 0 rfl) ?_
  refine W.objInit hx hb C.1.2.2.2.1 (C.1.2.2.2.2 _ m_282) (C.1.2.2.2.2 _ m_1) (C.1.2.2.2.2 _ m_2) rfl (by rw [C.1.2.2.1]; exact hl.1) rfl d_OnWay_init_1 (Nat.le_of_ble_eq_true rfl) (Nat.le_of_ble_eq_true rfl) ?_
  refine W.eq (g2 := F0 m 4 ls []) rfl ?_
  refine lv_aload_n hx hb d_OnWay_init_4 rfl (lv_at hl 0 rfl) ?_
  refine lv_aload_n hx hb d_OnWay_init_5 rfl (lv_at hl 1 rfl) ?_
  replace h := xb h
  obtain ⟨K1, hv, h⟩ := h
  refine xr_prF (v := (some x1)) C X xc_OnWay (by decide) 0 (by decide) (by decide) rfl (Or.inl ⟨_, rfl⟩) rfl hin rfl m_283 d_OnWay_init_6 hv (fun H locs X => ?_)
  refine lv_aload_n hx hb d_OnWay_init_9 rfl (lv_at hl 0 rfl) ?_
  refine lv_iload_n hx hb d_OnWay_init_10 rfl (lv_at hl 2 rfl) ?_
  replace h := xb h
  obtain ⟨K2, hv, h⟩ := h
  refine xr_piF C X xc_OnWay (by decide) 1 (by decide) (by decide) rfl rfl rfl hin rfl m_284 d_OnWay_init_11 hv (fun H locs X => ?_)
  refine lv_aload_n hx hb d_OnWay_init_14 rfl (lv_at hl 0 rfl) ?_
  refine lv_iload_n hx hb d_OnWay_init_15 rfl (lv_at hl 3 rfl) ?_
  replace h := xb h
  obtain ⟨K3, hv, h⟩ := h
  refine xr_piF C X xc_OnWay (by decide) 2 (by decide) (by decide) rfl rfl rfl hin rfl m_285 d_OnWay_init_16 hv (fun H locs X => ?_)
  obtain rfl := Option.some.inj h
  exact xr_vret C X hlk hr d_OnWay_init_19 (Nat.le_of_ble_eq_true rfl) (Nat.le_of_ble_eq_true rfl)
theorem kc_OnWay_init (l : Launch) (E : xe) {th : Nat} {x1 : Nat} {x2 : Int32} {x3 : Int32} (h : kf_OnWay_init_0 K th x1 x2 x3 = some K') : Met l y_OnWay_init (Cond.code y_OnWay_init b_OnWay_init 4 none :: w_all) { frames := 1, cells := 0, slots := 0, locals := 20 } (va_Pc [.ref th, .ref x1, .int x2, .int x3] (fun U => xx_B E K M U)) (xq_v E K' M) 0 0 (xe_A E) :=
  xr_met (by decide) (Nat.le_of_ble_eq_true rfl) fun p e s m below meth c ls C X hlk hr hin hl => kw_OnWay_init_0 C hlk hr hin X hl h
set_option maxHeartbeats 4000000 in
set_option maxRecDepth 100000 in
theorem kw_Master_pushToOthers_56 {rec5 : xk → Nat → Nat → Nat → Int32 → Int32 → Option (Int32 × xk)} {th : Nat} {x1 : Nat} {x2 : Nat} {x3 : Int32} {x4 : Int32} {x5 : Nat} {r : Int32} (C : xx_C p m c b_Master_pushToOthers 6 s args Rn_Master E) (hlk : meth.locks = false) (hr : meth.sig.returnType = (some .int)) (hin : meth.name = "pushToOthers") (hrec5 : ∀ {H : Heap} {locs : List Loc} {ls : Array Slot} {K : xk} {th : Nat} {x1 : Nat} {x2 : Nat} {x3 : Int32} {x4 : Int32}, xx_S E K M s H locs → lv_has ls 6 [(0, .ref th), (1, .ref x1), (2, .ref x2), (3, .int x3), (4, .int x4)] → rec5 K th x1 x2 x3 x4 = some (r, K') → W p l e { frames := 2, cells := 0, slots := 0, locals := 47 } s m args below meth c H locs 0 0 (MQ below (xq_i E K' M r) args s 0 0 (xe_A E)) (F0 m 5 ls [])) (X : xx_S E K M s H locs) (hl : lv_has ls 6 [(0, .ref th), (1, .ref x1), (2, .ref x2), (3, .int x3), (4, .int x4), (5, .ref x5)]) (h : kf_Master_pushToOthers_56 rec5 K th x1 x2 x3 x4 x5 = some (r, K')) : W p l e { frames := 2, cells := 0, slots := 0, locals := 47 } s m args below meth c H locs 0 0 (MQ below (xq_i E K' M r) args s 0 0 (xe_A E)) (F0 m 56 ls []) := by
  have hx := C.1.1
  have hb := C.1.2.1
  unfold kf_Master_pushToOthers_56 at h
  refine lv_aload hx hb d_Master_pushToOthers_56 (lv_at hl 5 rfl) ?_
  refine lv_aload_n hx hb d_Master_pushToOthers_58 rfl (lv_at hl 1 rfl) ?_
  replace h := xb h
  obtain ⟨v1, hv, h⟩ := h
  refine xr_gr C X xc_OnWay (by decide) 0 (by decide) (by decide) rfl m_287 d_Master_pushToOthers_59 hv ?_
  replace h := xb h
  obtain ⟨K2, hv, h⟩ := h
  refine xr_pr (v := v1) C X xc_Message (by decide) 9 (by decide) (by decide) rfl (Or.inl ⟨_, rfl⟩) rfl m_289 d_Master_pushToOthers_62 hv (fun H locs X => ?_)
  refine lv_iinc (k := 3) (v := (x3 + (1 : Int32))) hx hb d_Master_pushToOthers_65 hl rfl (congrArg (fun y : Int32 => x3 + y) kn_i_1) (by decide) rfl (fun ls hl => ?_)
  have hl : lv_has ls 6 [(3, .int (x3 + (1 : Int32))), (0, .ref th), (1, .ref x1), (2, .ref x2), (4, .int x4), (5, .ref x5)] := hl
  refine lv_iinc (k := 4) (v := (x4 + (1 : Int32))) hx hb d_Master_pushToOthers_68 hl rfl (congrArg (fun y : Int32 => x4 + y) kn_i_1) (by decide) rfl (fun ls hl => ?_)
  have hl : lv_has ls 6 [(4, .int (x4 + (1 : Int32))), (3, .int (x3 + (1 : Int32))), (0, .ref th), (1, .ref x1), (2, .ref x2), (5, .ref x5)] := hl
  refine lv_goto (tgt := 5) hx hb d_Master_pushToOthers_71 (by decide +kernel) ?_
  exact hrec5 (th := th) (x1 := x1) (x2 := x2) (x3 := (x3 + (1 : Int32))) (x4 := (x4 + (1 : Int32))) X (lv_sub hl [2, 3, 4, 1, 0] rfl) h
set_option maxHeartbeats 4000000 in
set_option maxRecDepth 100000 in
theorem kwb_Master_pushToOthers_5 {rec5 : xk → Nat → Nat → Nat → Int32 → Int32 → Option (Int32 × xk)} {th : Nat} {x1 : Nat} {x2 : Nat} {x3 : Int32} {x4 : Int32} {r : Int32} (C : xx_C p m c b_Master_pushToOthers 6 s args Rn_Master E) (hlk : meth.locks = false) (hr : meth.sig.returnType = (some .int)) (hin : meth.name = "pushToOthers") (hrec5 : ∀ {H : Heap} {locs : List Loc} {ls : Array Slot} {K : xk} {th : Nat} {x1 : Nat} {x2 : Nat} {x3 : Int32} {x4 : Int32}, xx_S E K M s H locs → lv_has ls 6 [(0, .ref th), (1, .ref x1), (2, .ref x2), (3, .int x3), (4, .int x4)] → rec5 K th x1 x2 x3 x4 = some (r, K') → W p l e { frames := 2, cells := 0, slots := 0, locals := 47 } s m args below meth c H locs 0 0 (MQ below (xq_i E K' M r) args s 0 0 (xe_A E)) (F0 m 5 ls [])) (X : xx_S E K M s H locs) (hl : lv_has ls 6 [(0, .ref th), (1, .ref x1), (2, .ref x2), (3, .int x3), (4, .int x4)]) (h : kb_Master_pushToOthers_5 rec5 K th x1 x2 x3 x4 = some (r, K')) : W p l e { frames := 2, cells := 0, slots := 0, locals := 47 } s m args below meth c H locs 0 0 (MQ below (xq_i E K' M r) args s 0 0 (xe_A E)) (F0 m 5 ls []) := by
  have hx := C.1.1
  have hb := C.1.2.1
  unfold kb_Master_pushToOthers_5 at h
  refine lv_iload hx hb d_Master_pushToOthers_5 (lv_at hl 4 rfl) ?_
  refine lv_iconst hx hb d_Master_pushToOthers_7 kn_i_3 ?_
  refine lv_icmp_ge (tgt := 74) hx hb d_Master_pushToOthers_8 (by decide +kernel) (fun hc => ?_) (fun hc => ?_)
  · rw [if_pos hc] at h
    refine lv_iload_n hx hb d_Master_pushToOthers_74 rfl (lv_at hl 3 rfl) ?_
    obtain ⟨rfl, rfl⟩ := Prod.mk.inj (Option.some.inj h)
    exact xr_iret C X hlk hr d_Master_pushToOthers_75 rfl (Nat.le_of_ble_eq_true rfl) (Nat.le_of_ble_eq_true rfl)
  · rw [if_neg hc] at h
    refine lv_aload_n hx hb d_Master_pushToOthers_11 rfl (lv_at hl 0 rfl) ?_
    replace h := xb h
    obtain ⟨v1, hv, h⟩ := h
    refine xr_gi C X xc_Master (by decide) 1 (by decide) (by decide) rfl m_50 d_Master_pushToOthers_12 hv ?_
    refine lv_aload_n hx hb d_Master_pushToOthers_15 rfl (lv_at hl 1 rfl) ?_
    replace h := xb h
    obtain ⟨v2, hv, h⟩ := h
    refine xr_gi C X xc_OnWay (by decide) 3 (by decide) (by decide) rfl m_286 d_Master_pushToOthers_16 hv ?_
    refine lv_iconst hx hb d_Master_pushToOthers_19 kn_i_m1 ?_
    refine lv_ixor hx hb d_Master_pushToOthers_20 ?_
    refine lv_iand hx hb d_Master_pushToOthers_21 ?_
    refine lv_iconst hx hb d_Master_pushToOthers_22 kn_i_1 ?_
    refine lv_iload hx hb d_Master_pushToOthers_23 (lv_at hl 4 rfl) ?_
    refine lv_ishl hx hb d_Master_pushToOthers_25 ?_
    refine lv_iand hx hb d_Master_pushToOthers_26 ?_
    refine lv_if_eq (tgt := 68) hx hb d_Master_pushToOthers_27 (by decide +kernel) (fun hc => ?_) (fun hc => ?_)
    · rw [if_pos hc] at h
      refine lv_iinc (k := 4) (v := (x4 + (1 : Int32))) hx hb d_Master_pushToOthers_68 hl rfl (congrArg (fun y : Int32 => x4 + y) kn_i_1) (by decide) rfl (fun ls hl => ?_)
      have hl : lv_has ls 6 [(4, .int (x4 + (1 : Int32))), (0, .ref th), (1, .ref x1), (2, .ref x2), (3, .int x3)] := hl
      refine lv_goto (tgt := 5) hx hb d_Master_pushToOthers_71 (by decide +kernel) ?_
      exact hrec5 (th := th) (x1 := x1) (x2 := x2) (x3 := x3) (x4 := (x4 + (1 : Int32))) X (lv_sub hl [1, 2, 3, 4, 0] rfl) h
    · rw [if_neg hc] at h
      refine lv_aload_n hx hb d_Master_pushToOthers_30 rfl (lv_at hl 2 rfl) ?_
      refine lv_bipush hx hb d_Master_pushToOthers_31 kn_b_6 ?_
      refine lv_iload hx hb d_Master_pushToOthers_33 (lv_at hl 4 rfl) ?_
      refine lv_aload_n hx hb d_Master_pushToOthers_35 rfl (lv_at hl 0 rfl) ?_
      replace h := xb h
      obtain ⟨v3, hv, h⟩ := h
      refine xr_gi C X xc_Master (by decide) 0 (by decide) (by decide) rfl m_49 d_Master_pushToOthers_36 hv ?_
      replace h := xb h
      obtain ⟨_, hO5, h⟩ := h
      replace h := xpb h
      obtain ⟨r6, K4, hv, h⟩ := h
      refine xr_kr (va_runV (As := [.int (6 : Int32), .int x4, .int v3]) (rest := []) C.1 (kc_Line_send l E hv) (cwV 3 C.1.2.2.2.2 (xw_V m_247 m_132 m_133 m_68 m_134) rfl rfl rfl ky_Line_send ⟨(Nat.le_of_ble_eq_true rfl), (Nat.le_of_ble_eq_true rfl)⟩) (xr_pV C X xc_Line.1 (xk_Xo (xOk hO5) (by decide))) rfl rfl hl.1 rfl (lv_room (Nat.le_of_ble_eq_true rfl)) d_Master_pushToOthers_39 ⟨(Nat.le_of_ble_eq_true rfl), (Nat.le_of_ble_eq_true rfl)⟩) X (fun H locs X => ?_)
      refine xr_astore hx hb d_Master_pushToOthers_42 hl (by decide) rfl (fun ls hl => ?_)
      have hl : lv_has ls 6 [(5, va_rf r6), (0, .ref th), (1, .ref x1), (2, .ref x2), (3, .int x3), (4, .int x4)] := hl
      refine xr_aload hx hb d_Master_pushToOthers_44 (lv_at hl 0 rfl) ?_
      refine lv_aload_n hx hb d_Master_pushToOthers_46 rfl (lv_at hl 2 rfl) ?_
      replace h := xb h
      obtain ⟨v7, hv, h⟩ := h
      refine xr_gr C X xc_OnWay (by decide) 0 (by decide) (by decide) rfl m_287 d_Master_pushToOthers_47 hv ?_
      replace h := xb h
      obtain ⟨a8, rfl, h⟩ := h
      replace h := xb h
      obtain ⟨v9, hv, h⟩ := h
      refine xr_gi C X xc_Entry (by decide) 0 (by decide) (by decide) rfl m_288 d_Master_pushToOthers_50 hv ?_
      replace h := xb h
      obtain ⟨a10, rfl, h⟩ := h
      replace h := xb h
      obtain ⟨K11, hv, h⟩ := h
      refine xr_pi C X xc_Message (by decide) 3 (by decide) (by decide) rfl rfl rfl m_252 d_Master_pushToOthers_53 hv (fun H locs X => ?_)
      exact kw_Master_pushToOthers_56 (th := th) (x1 := x1) (x2 := x2) (x3 := x3) (x4 := x4) (x5 := a10) C hlk hr hin hrec5  X (lv_sub hl [1, 2, 3, 4, 5, 0] rfl) h
theorem kw_Master_pushToOthers_5 {r : Int32} (C : xx_C p m c b_Master_pushToOthers 6 s args Rn_Master E) (hlk : meth.locks = false) (hr : meth.sig.returnType = (some .int)) (hin : meth.name = "pushToOthers") : ∀ (n : Nat) {H : Heap} {locs : List Loc} {ls : Array Slot} {K : xk} {th : Nat} {x1 : Nat} {x2 : Nat} {x3 : Int32} {x4 : Int32}, xx_S E K M s H locs → lv_has ls 6 [(0, .ref th), (1, .ref x1), (2, .ref x2), (3, .int x3), (4, .int x4)] → kf_Master_pushToOthers_5 n K th x1 x2 x3 x4 = some (r, K') → W p l e { frames := 2, cells := 0, slots := 0, locals := 47 } s m args below meth c H locs 0 0 (MQ below (xq_i E K' M r) args s 0 0 (xe_A E)) (F0 m 5 ls []) := by
  intro n
  induction n with
  | zero => intro H locs ls K th x1 x2 x3 x4 X hl h; exact nomatch (show (none : Option (Int32 × xk)) = some _ from h)
  | succ n ih => intro H locs ls K th x1 x2 x3 x4 X hl h; exact kwb_Master_pushToOthers_5 C hlk hr hin ih X hl h
set_option maxHeartbeats 4000000 in
set_option maxRecDepth 100000 in
theorem kw_Master_pushToOthers_0 {th : Nat} {x1 : Nat} {x2 : Nat} {r : Int32} (C : xx_C p m c b_Master_pushToOthers 6 s args Rn_Master E) (hlk : meth.locks = false) (hr : meth.sig.returnType = (some .int)) (hin : meth.name = "pushToOthers") (X : xx_S E K M s H locs) (hl : lv_has ls 6 [(0, .ref th), (1, .ref x1), (2, .ref x2)]) (h : kf_Master_pushToOthers_0 K th x1 x2 = some (r, K')) : W p l e { frames := 2, cells := 0, slots := 0, locals := 47 } s m args below meth c H locs 0 0 (MQ below (xq_i E K' M r) args s 0 0 (xe_A E)) (F0 m 0 ls []) := by
  have hx := C.1.1
  have hb := C.1.2.1
  unfold kf_Master_pushToOthers_0 at h
  refine lv_iconst hx hb d_Master_pushToOthers_0 kn_i_0 ?_
  refine lv_istore_n hx hb d_Master_pushToOthers_1 rfl hl (by decide) rfl (fun ls hl => ?_)
  have hl : lv_has ls 6 [(3, .int (0 : Int32)), (0, .ref th), (1, .ref x1), (2, .ref x2)] := hl
  refine lv_iconst hx hb d_Master_pushToOthers_2 kn_i_0 ?_
  refine lv_istore hx hb d_Master_pushToOthers_3 hl (by decide) rfl (fun ls hl => ?_)
  have hl : lv_has ls 6 [(4, .int (0 : Int32)), (3, .int (0 : Int32)), (0, .ref th), (1, .ref x1), (2, .ref x2)] := hl
  exact kw_Master_pushToOthers_5 C hlk hr hin 1000 X (lv_sub hl [2, 3, 4, 1, 0] rfl) h
theorem kc_Master_pushToOthers (l : Launch) (E : xe) {th : Nat} {x1 : Nat} {x2 : Nat} {r : Int32} (h : kf_Master_pushToOthers_0 K th x1 x2 = some (r, K')) : Met l y_Master_pushToOthers (Cond.code y_Master_pushToOthers b_Master_pushToOthers 6 (some .int) :: w_all) { frames := 2, cells := 0, slots := 0, locals := 47 } (va_Pc [.ref th, .ref x1, .ref x2] (fun U => xx_B E K M U)) (xq_i E K' M r) 0 0 (xe_A E) :=
  xr_met (by decide) (Nat.le_of_ble_eq_true rfl) fun p e s m below meth c ls C X hlk hr hin hl => kw_Master_pushToOthers_0 C hlk hr hin X hl h
set_option maxHeartbeats 4000000 in
set_option maxRecDepth 100000 in
theorem kw_Master_putOnWay_55 {th : Nat} {x2 : Nat} {x3 : Nat} (C : xx_C p m c b_Master_putOnWay 4 s args Rn_Master E) (hlk : meth.locks = false) (hr : meth.sig.returnType = none) (hin : meth.name = "putOnWay") (X : xx_S E K M s H locs) (hl : lv_has ls 4 [(0, .ref th), (2, .ref x2), (3, .ref x3)]) (h : kf_Master_putOnWay_55 K th x2 x3 = some K') : W p l e { frames := 3, cells := 2, slots := 7, locals := 72 } s m args below meth c H locs 2 7 (MQ below (xq_v E K' M) args s 2 7 (xe_A E)) (F0 m 55 ls []) := by
  have hx := C.1.1
  have hb := C.1.2.1
  unfold kf_Master_putOnWay_55 at h
  refine lv_aload_n hx hb d_Master_putOnWay_55 rfl (lv_at hl 0 rfl) ?_
  refine lv_aload_n hx hb d_Master_putOnWay_56 rfl (lv_at hl 2 rfl) ?_
  refine lv_aload_n hx hb d_Master_putOnWay_57 rfl (lv_at hl 1 rfl) ?_
  replace h := xb h
  obtain ⟨_, hO2, h⟩ := h
  replace h := xpb h
  obtain ⟨r3, K1, hv, h⟩ := h
  refine xr_ki (va_runV (As := [.ref x3, .ref x2]) (rest := []) C.1 (kc_Master_pushToOthers l E hv) (cwV 2 C.1.2.2.2.2 (xw_V m_302 m_303 m_304 m_93 m_305) rfl rfl rfl ky_Master_pushToOthers ⟨(Nat.le_of_ble_eq_true rfl), (Nat.le_of_ble_eq_true rfl)⟩) (xr_pV C X xc_Master.1 (xk_Xo (xOk hO2) (by decide))) rfl rfl hl.1 rfl (lv_room (Nat.le_of_ble_eq_true rfl)) d_Master_putOnWay_58 ⟨(Nat.le_of_ble_eq_true rfl), (Nat.le_of_ble_eq_true rfl)⟩) X (fun H locs X => ?_)
  refine lv_pop hx hb d_Master_putOnWay_61 rfl ?_
  refine lv_aload_n hx hb d_Master_putOnWay_62 rfl (lv_at hl 0 rfl) ?_
  refine lv_aload_n hx hb d_Master_putOnWay_63 rfl (lv_at hl 0 rfl) ?_
  replace h := xb h
  obtain ⟨v4, hv, h⟩ := h
  refine xr_gi C X xc_Master (by decide) 3 (by decide) (by decide) rfl m_52 d_Master_putOnWay_64 hv ?_
  replace h := xb h
  obtain ⟨K5, hv, h⟩ := h
  refine xr_pi C X xc_Master (by decide) 4 (by decide) (by decide) rfl rfl rfl m_53 d_Master_putOnWay_67 hv (fun H locs X => ?_)
  obtain rfl := Option.some.inj h
  exact xr_vret C X hlk hr d_Master_putOnWay_70 (Nat.le_of_ble_eq_true rfl) (Nat.le_of_ble_eq_true rfl)
set_option maxHeartbeats 4000000 in
set_option maxRecDepth 100000 in
theorem kw_Master_putOnWay_0 {th : Nat} {x1 : Nat} {x2 : Nat} (C : xx_C p m c b_Master_putOnWay 4 s args Rn_Master E) (hlk : meth.locks = false) (hr : meth.sig.returnType = none) (hin : meth.name = "putOnWay") (X : xx_S E K M s H locs) (hl : lv_has ls 4 [(0, .ref th), (1, .ref x1), (2, .ref x2)]) (h : kf_Master_putOnWay_0 K th x1 x2 = some K') : W p l e { frames := 3, cells := 2, slots := 7, locals := 72 } s m args below meth c H locs 0 0 (MQ below (xq_v E K' M) args s 2 7 (xe_A E)) (F0 m 0 ls []) := by
  have hx := C.1.1
  have hb := C.1.2.1
  unfold kf_Master_putOnWay_0 at h
  replace h := xpb h
  obtain ⟨q1, K2, hv, h⟩ := h
  refine xr_new C X xc_OnWay (by decide) rfl xdf_OnWay m_47 m_290 m_291 d_Master_putOnWay_0 (Nat.le_of_ble_eq_true rfl) (Nat.le_of_ble_eq_true rfl) hv (fun H X => ?_)
  refine lv_dup hx hb d_Master_putOnWay_3 rfl ?_
  replace h := xpb h
  obtain ⟨q3, K4, hv, h⟩ := h
  refine xr_new C X xc_Entry (by decide) rfl xdf_Entry m_292 m_293 m_294 d_Master_putOnWay_4 (Nat.le_of_ble_eq_true rfl) (Nat.le_of_ble_eq_true rfl) hv (fun H X => ?_)
  refine lv_dup hx hb d_Master_putOnWay_7 rfl ?_
  refine lv_aload_n hx hb d_Master_putOnWay_8 rfl (lv_at hl 0 rfl) ?_
  replace h := xb h
  obtain ⟨v5, hv, h⟩ := h
  refine xr_gi C X xc_Master (by decide) 3 (by decide) (by decide) rfl m_52 d_Master_putOnWay_9 hv ?_
  refine lv_aload_n hx hb d_Master_putOnWay_12 rfl (lv_at hl 0 rfl) ?_
  replace h := xb h
  obtain ⟨v6, hv, h⟩ := h
  refine xr_gi C X xc_Master (by decide) 4 (by decide) (by decide) rfl m_53 d_Master_putOnWay_13 hv ?_
  refine lv_aload_n hx hb d_Master_putOnWay_16 rfl (lv_at hl 1 rfl) ?_
  replace h := xb h
  obtain ⟨v7, hv, h⟩ := h
  refine xr_gr C X xc_Message (by decide) 8 (by decide) (by decide) rfl m_273 d_Master_putOnWay_17 hv ?_
  replace h := xb h
  obtain ⟨a8, rfl, h⟩ := h
  replace h := xb h
  obtain ⟨K9, hv, h⟩ := h
  refine xr_kv (va_runI (As := [.int v5, .int v6, .ref a8]) (rest := [.ref q3, .ref q1, .ref q1]) C.1 (kc_Entry_init l E hv) (cwI 3 C.1.2.2.2.2 (xw_in m_296) rfl rfl rfl (C.1.2.2.2.2 _ m_294) (C.1.2.2.2.2 _ m_295) (C.1.2.2.2.2 _ m_297) rfl ky_Entry_init ⟨(Nat.le_of_ble_eq_true rfl), (Nat.le_of_ble_eq_true rfl)⟩) (xr_pS C X) rfl rfl hl.1 rfl (lv_room (Nat.le_of_ble_eq_true rfl)) d_Master_putOnWay_20 ⟨(Nat.le_of_ble_eq_true rfl), (Nat.le_of_ble_eq_true rfl)⟩) X (fun H locs X => ?_)
  refine lv_aload_n hx hb d_Master_putOnWay_23 rfl (lv_at hl 1 rfl) ?_
  replace h := xb h
  obtain ⟨v10, hv, h⟩ := h
  refine xr_gi C X xc_Message (by decide) 1 (by decide) (by decide) rfl m_242 d_Master_putOnWay_24 hv ?_
  refine lv_aload_n hx hb d_Master_putOnWay_27 rfl (lv_at hl 1 rfl) ?_
  replace h := xb h
  obtain ⟨v11, hv, h⟩ := h
  refine xr_gi C X xc_Message (by decide) 4 (by decide) (by decide) rfl m_243 d_Master_putOnWay_28 hv ?_
  replace h := xb h
  obtain ⟨K12, hv, h⟩ := h
  refine xr_kv (va_runI (As := [.ref q3, .int v10, .int v11]) (rest := [.ref q1]) C.1 (kc_OnWay_init l E hv) (cwI 3 C.1.2.2.2.2 (xw_in m_299) rfl rfl rfl (C.1.2.2.2.2 _ m_291) (C.1.2.2.2.2 _ m_298) (C.1.2.2.2.2 _ m_300) rfl ky_OnWay_init ⟨(Nat.le_of_ble_eq_true rfl), (Nat.le_of_ble_eq_true rfl)⟩) (xr_pS C X) rfl rfl hl.1 rfl (lv_room (Nat.le_of_ble_eq_true rfl)) d_Master_putOnWay_31 ⟨(Nat.le_of_ble_eq_true rfl), (Nat.le_of_ble_eq_true rfl)⟩) X (fun H locs X => ?_)
  refine lv_astore_n hx hb d_Master_putOnWay_34 rfl hl (by decide) rfl (fun ls hl => ?_)
  have hl : lv_has ls 4 [(3, .ref q1), (0, .ref th), (1, .ref x1), (2, .ref x2)] := hl
  refine lv_aload_n hx hb d_Master_putOnWay_35 rfl (lv_at hl 1 rfl) ?_
  replace h := xb h
  obtain ⟨v13, hv, h⟩ := h
  refine xr_gr C X xc_Master (by decide) 10 (by decide) (by decide) rfl m_48 d_Master_putOnWay_36 hv ?_
  refine lv_aload_n hx hb d_Master_putOnWay_39 rfl (lv_at hl 1 rfl) ?_
  replace h := xb h
  obtain ⟨v14, hv, h⟩ := h
  refine xr_gi C X xc_Master (by decide) 11 (by decide) (by decide) rfl m_301 d_Master_putOnWay_40 hv ?_
  refine lv_aload_n hx hb d_Master_putOnWay_43 rfl (lv_at hl 0 rfl) ?_
  replace h := xb h
  obtain ⟨a16, rfl, h⟩ := h
  replace h := xb h
  obtain ⟨K15, hv, h⟩ := h
  refine xr_aast (v := (some q1)) C X 10 7 (by decide) (by decide) rfl rfl rfl d_Master_putOnWay_44 hv (fun H locs X => ?_)
  refine lv_aload_n hx hb d_Master_putOnWay_45 rfl (lv_at hl 1 rfl) ?_
  refine lv_dup hx hb d_Master_putOnWay_46 rfl ?_
  replace h := xb h
  obtain ⟨v17, hv, h⟩ := h
  refine xr_gi C X xc_Master (by decide) 11 (by decide) (by decide) rfl m_301 d_Master_putOnWay_47 hv ?_
  refine lv_iconst hx hb d_Master_putOnWay_50 kn_i_1 ?_
  refine lv_iadd hx hb d_Master_putOnWay_51 ?_
  replace h := xb h
  obtain ⟨K18, hv, h⟩ := h
  refine xr_pi C X xc_Master (by decide) 11 (by decide) (by decide) rfl rfl rfl m_301 d_Master_putOnWay_52 hv (fun H locs X => ?_)
  exact kw_Master_putOnWay_55 (th := th) (x2 := x2) (x3 := q1) C hlk hr hin  X (lv_sub hl [1, 3, 0] rfl) h
theorem kc_Master_putOnWay (l : Launch) (E : xe) {th : Nat} {x1 : Nat} {x2 : Nat} (h : kf_Master_putOnWay_0 K th x1 x2 = some K') : Met l y_Master_putOnWay (Cond.code y_Master_putOnWay b_Master_putOnWay 4 none :: w_all) { frames := 3, cells := 2, slots := 7, locals := 72 } (va_Pc [.ref th, .ref x1, .ref x2] (fun U => xx_B E K M U)) (xq_v E K' M) 2 7 (xe_A E) :=
  xr_met (by decide) (Nat.le_of_ble_eq_true rfl) fun p e s m below meth c ls C X hlk hr hin hl => kw_Master_putOnWay_0 C hlk hr hin X hl h
set_option maxHeartbeats 4000000 in
set_option maxRecDepth 100000 in
theorem kw_Master_decide_35 {th : Nat} {x1 : Nat} {x2 : Nat} (C : xx_C p m c b_Master_decide 3 s args Rn_Master E) (hlk : meth.locks = false) (hr : meth.sig.returnType = none) (hin : meth.name = "decide") (X : xx_S E K M s H locs) (hl : lv_has ls 3 [(0, .ref th), (1, .ref x1), (2, .ref x2)]) (h : kf_Master_decide_35 K th x1 x2 = some K') : W p l e { frames := 4, cells := 2, slots := 7, locals := 95 } s m args below meth c H locs 0 0 (MQ below (xq_v E K' M) args s 2 7 (xe_A E)) (F0 m 35 ls []) := by
  have hx := C.1.1
  have hb := C.1.2.1
  unfold kf_Master_decide_35 at h
  refine lv_aload_n hx hb d_Master_decide_35 rfl (lv_at hl 0 rfl) ?_
  refine lv_aload_n hx hb d_Master_decide_36 rfl (lv_at hl 1 rfl) ?_
  replace h := xb h
  obtain ⟨v1, hv, h⟩ := h
  refine xr_gi C X xc_Message (by decide) 1 (by decide) (by decide) rfl m_242 d_Master_decide_37 hv ?_
  refine lv_aload_n hx hb d_Master_decide_40 rfl (lv_at hl 1 rfl) ?_
  replace h := xb h
  obtain ⟨v2, hv, h⟩ := h
  refine xr_gi C X xc_Message (by decide) 4 (by decide) (by decide) rfl m_243 d_Master_decide_41 hv ?_
  refine lv_bipush hx hb d_Master_decide_44 kn_b_6 ?_
  refine lv_aload_n hx hb d_Master_decide_46 rfl (lv_at hl 2 rfl) ?_
  replace h := xb h
  obtain ⟨_, hO4, h⟩ := h
  replace h := xpb h
  obtain ⟨r5, K3, hv, h⟩ := h
  refine xr_kr (va_runV (As := [.int v1, .int v2, .int (6 : Int32), .ref x2]) (rest := []) C.1 (kc_Master_sendResult l E hv) (cwV 4 C.1.2.2.2.2 (xw_V m_310 m_311 m_312 m_93 m_313) rfl rfl rfl ky_Master_sendResult ⟨(Nat.le_of_ble_eq_true rfl), (Nat.le_of_ble_eq_true rfl)⟩) (xr_pV C X xc_Master.1 (xk_Xo (xOk hO4) (by decide))) rfl rfl hl.1 rfl (lv_room (Nat.le_of_ble_eq_true rfl)) d_Master_decide_47 ⟨(Nat.le_of_ble_eq_true rfl), (Nat.le_of_ble_eq_true rfl)⟩) X (fun H locs X => ?_)
  refine lv_pop hx hb d_Master_decide_50 (xr_cat _) ?_
  obtain rfl := Option.some.inj h
  exact xr_vret C X hlk hr d_Master_decide_51 (Nat.le_of_ble_eq_true rfl) (Nat.le_of_ble_eq_true rfl)
set_option maxHeartbeats 4000000 in
set_option maxRecDepth 100000 in
theorem kw_Master_decide_76 (C : xx_C p m c b_Master_decide 3 s args Rn_Master E) (hlk : meth.locks = false) (hr : meth.sig.returnType = none) (hin : meth.name = "decide") (X : xx_S E K M s H locs) (hl : lv_has ls 3 []) (h : kf_Master_decide_76 K = some K') : W p l e { frames := 4, cells := 2, slots := 7, locals := 95 } s m args below meth c H locs 2 7 (MQ below (xq_v E K' M) args s 2 7 (xe_A E)) (F0 m 76 ls []) := by
  have hx := C.1.1
  have hb := C.1.2.1
  unfold kf_Master_decide_76 at h
  refine lv_goto (tgt := 94) hx hb d_Master_decide_76 (by decide +kernel) ?_
  obtain rfl := Option.some.inj h
  exact xr_vret C X hlk hr d_Master_decide_94 (Nat.le_of_ble_eq_true rfl) (Nat.le_of_ble_eq_true rfl)
set_option maxHeartbeats 4000000 in
set_option maxRecDepth 100000 in
theorem kw_Master_decide_0 {th : Nat} {x1 : Nat} {x2 : Nat} (C : xx_C p m c b_Master_decide 3 s args Rn_Master E) (hlk : meth.locks = false) (hr : meth.sig.returnType = none) (hin : meth.name = "decide") (X : xx_S E K M s H locs) (hl : lv_has ls 3 [(0, .ref th), (1, .ref x1), (2, .ref x2)]) (h : kf_Master_decide_0 K th x1 x2 = some K') : W p l e { frames := 4, cells := 2, slots := 7, locals := 95 } s m args below meth c H locs 0 0 (MQ below (xq_v E K' M) args s 2 7 (xe_A E)) (F0 m 0 ls []) := by
  have hx := C.1.1
  have hb := C.1.2.1
  unfold kf_Master_decide_0 at h
  refine lv_aload_n hx hb d_Master_decide_0 rfl (lv_at hl 0 rfl) ?_
  replace h := xb h
  obtain ⟨v1, hv, h⟩ := h
  refine xr_gi C X xc_Master (by decide) 11 (by decide) (by decide) rfl m_301 d_Master_decide_1 hv ?_
  refine lv_bipush hx hb d_Master_decide_4 kn_b_8 ?_
  refine lv_icmp_lt (tgt := 10) hx hb d_Master_decide_6 (by decide +kernel) (fun hc => ?_) (fun hc => ?_)
  · rw [if_pos hc] at h
    refine lv_aload_n hx hb d_Master_decide_10 rfl (lv_at hl 1 rfl) ?_
    replace h := xb h
    obtain ⟨v2, hv, h⟩ := h
    refine xr_gi C X xc_Message (by decide) 3 (by decide) (by decide) rfl m_252 d_Master_decide_11 hv ?_
    refine lv_aload_n hx hb d_Master_decide_14 rfl (lv_at hl 0 rfl) ?_
    replace h := xb h
    obtain ⟨v3, hv, h⟩ := h
    refine xr_gi C X xc_Master (by decide) 2 (by decide) (by decide) rfl m_51 d_Master_decide_15 hv ?_
    refine lv_icmp_lt (tgt := 35) hx hb d_Master_decide_18 (by decide +kernel) (fun hc => ?_) (fun hc => ?_)
    · rw [if_pos hc] at h
      exact kw_Master_decide_35 (th := th) (x1 := x1) (x2 := x2) C hlk hr hin  X (lv_sub hl [0, 1, 2] rfl) h
    · rw [if_neg hc] at h
      refine lv_aload_n hx hb d_Master_decide_21 rfl (lv_at hl 1 rfl) ?_
      replace h := xb h
      obtain ⟨v4, hv, h⟩ := h
      refine xr_gi C X xc_Message (by decide) 3 (by decide) (by decide) rfl m_252 d_Master_decide_22 hv ?_
      refine lv_aload_n hx hb d_Master_decide_25 rfl (lv_at hl 0 rfl) ?_
      replace h := xb h
      obtain ⟨v5, hv, h⟩ := h
      refine xr_gi C X xc_Master (by decide) 3 (by decide) (by decide) rfl m_52 d_Master_decide_26 hv ?_
      refine lv_bipush hx hb d_Master_decide_29 kn_b_12 ?_
      refine lv_isub hx hb d_Master_decide_31 ?_
      refine lv_icmp_ge (tgt := 52) hx hb d_Master_decide_32 (by decide +kernel) (fun hc => ?_) (fun hc => ?_)
      · rw [if_pos hc] at h
        refine lv_aload_n hx hb d_Master_decide_52 rfl (lv_at hl 0 rfl) ?_
        refine lv_dup hx hb d_Master_decide_53 rfl ?_
        replace h := xb h
        obtain ⟨v6, hv, h⟩ := h
        refine xr_gi C X xc_Master (by decide) 3 (by decide) (by decide) rfl m_52 d_Master_decide_54 hv ?_
        refine lv_iconst hx hb d_Master_decide_57 kn_i_1 ?_
        refine lv_iadd hx hb d_Master_decide_58 ?_
        replace h := xb h
        obtain ⟨K7, hv, h⟩ := h
        refine xr_pi C X xc_Master (by decide) 3 (by decide) (by decide) rfl rfl rfl m_52 d_Master_decide_59 hv (fun H locs X => ?_)
        refine lv_aload_n hx hb d_Master_decide_62 rfl (lv_at hl 0 rfl) ?_
        refine lv_aload_n hx hb d_Master_decide_63 rfl (lv_at hl 1 rfl) ?_
        replace h := xb h
        obtain ⟨_, hO9, h⟩ := h
        replace h := xpb h
        obtain ⟨r10, K8, hv, h⟩ := h
        refine xr_ki (va_runV (As := [.ref x1]) (rest := []) C.1 (kc_Master_passesResolvers l E hv) (cwV 1 C.1.2.2.2.2 (xw_V m_306 m_307 m_308 m_93 m_309) rfl rfl rfl ky_Master_passesResolvers ⟨(Nat.le_of_ble_eq_true rfl), (Nat.le_of_ble_eq_true rfl)⟩) (xr_pV C X xc_Master.1 (xk_Xo (xOk hO9) (by decide))) rfl rfl hl.1 rfl (lv_room (Nat.le_of_ble_eq_true rfl)) d_Master_decide_64 ⟨(Nat.le_of_ble_eq_true rfl), (Nat.le_of_ble_eq_true rfl)⟩) X (fun H locs X => ?_)
        refine lv_if_eq (tgt := 79) hx hb d_Master_decide_67 (by decide +kernel) (fun hc => ?_) (fun hc => ?_)
        · rw [if_pos hc] at h
          refine lv_aload_n hx hb d_Master_decide_79 rfl (lv_at hl 0 rfl) ?_
          refine lv_aload_n hx hb d_Master_decide_80 rfl (lv_at hl 1 rfl) ?_
          replace h := xb h
          obtain ⟨v11, hv, h⟩ := h
          refine xr_gi C X xc_Message (by decide) 1 (by decide) (by decide) rfl m_242 d_Master_decide_81 hv ?_
          refine lv_aload_n hx hb d_Master_decide_84 rfl (lv_at hl 1 rfl) ?_
          replace h := xb h
          obtain ⟨v12, hv, h⟩ := h
          refine xr_gi C X xc_Message (by decide) 4 (by decide) (by decide) rfl m_243 d_Master_decide_85 hv ?_
          refine lv_iconst hx hb d_Master_decide_88 kn_i_5 ?_
          refine lv_aload_n hx hb d_Master_decide_89 rfl (lv_at hl 2 rfl) ?_
          replace h := xb h
          obtain ⟨_, hO14, h⟩ := h
          replace h := xpb h
          obtain ⟨r15, K13, hv, h⟩ := h
          refine xr_kr (va_runV (As := [.int v11, .int v12, .int (5 : Int32), .ref x2]) (rest := []) C.1 (kc_Master_sendResult l E hv) (cwV 4 C.1.2.2.2.2 (xw_V m_310 m_311 m_312 m_93 m_313) rfl rfl rfl ky_Master_sendResult ⟨(Nat.le_of_ble_eq_true rfl), (Nat.le_of_ble_eq_true rfl)⟩) (xr_pV C X xc_Master.1 (xk_Xo (xOk hO14) (by decide))) rfl rfl hl.1 rfl (lv_room (Nat.le_of_ble_eq_true rfl)) d_Master_decide_90 ⟨(Nat.le_of_ble_eq_true rfl), (Nat.le_of_ble_eq_true rfl)⟩) X (fun H locs X => ?_)
          refine lv_pop hx hb d_Master_decide_93 (xr_cat _) ?_
          obtain rfl := Option.some.inj h
          exact xr_vret C X hlk hr d_Master_decide_94 (Nat.le_of_ble_eq_true rfl) (Nat.le_of_ble_eq_true rfl)
        · rw [if_neg hc] at h
          refine lv_aload_n hx hb d_Master_decide_70 rfl (lv_at hl 0 rfl) ?_
          refine lv_aload_n hx hb d_Master_decide_71 rfl (lv_at hl 1 rfl) ?_
          refine lv_aload_n hx hb d_Master_decide_72 rfl (lv_at hl 2 rfl) ?_
          replace h := xb h
          obtain ⟨_, hO17, h⟩ := h
          replace h := xb h
          obtain ⟨K16, hv, h⟩ := h
          refine xr_kv (va_runV (As := [.ref x1, .ref x2]) (rest := []) C.1 (kc_Master_putOnWay l E hv) (cwV 2 C.1.2.2.2.2 (xw_V m_314 m_315 m_316 m_93 m_317) rfl rfl rfl ky_Master_putOnWay ⟨(Nat.le_of_ble_eq_true rfl), (Nat.le_of_ble_eq_true rfl)⟩) (xr_pV C X xc_Master.1 (xk_Xo (xOk hO17) (by decide))) rfl rfl hl.1 rfl (lv_room (Nat.le_of_ble_eq_true rfl)) d_Master_decide_73 ⟨(Nat.le_of_ble_eq_true rfl), (Nat.le_of_ble_eq_true rfl)⟩) X (fun H locs X => ?_)
          exact kw_Master_decide_76 C hlk hr hin  X (lv_sub hl [] rfl) h
      · rw [if_neg hc] at h
        exact kw_Master_decide_35 (th := th) (x1 := x1) (x2 := x2) C hlk hr hin  X (lv_sub hl [0, 1, 2] rfl) h
  · rw [if_neg hc] at h
    obtain rfl := Option.some.inj h
    exact xr_vret C X hlk hr d_Master_decide_9 (Nat.le_of_ble_eq_true rfl) (Nat.le_of_ble_eq_true rfl)
theorem kc_Master_decide (l : Launch) (E : xe) {th : Nat} {x1 : Nat} {x2 : Nat} (h : kf_Master_decide_0 K th x1 x2 = some K') : Met l y_Master_decide (Cond.code y_Master_decide b_Master_decide 3 none :: w_all) { frames := 4, cells := 2, slots := 7, locals := 95 } (va_Pc [.ref th, .ref x1, .ref x2] (fun U => xx_B E K M U)) (xq_v E K' M) 2 7 (xe_A E) :=
  xr_met (by decide) (Nat.le_of_ble_eq_true rfl) fun p e s m below meth c ls C X hlk hr hin hl => kw_Master_decide_0 C hlk hr hin X hl h
end KW7
