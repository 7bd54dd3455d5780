/-! EpochStore$Log.takeRecord(LEpochStore$Entry;)Z -/
def kf_Log_takeRecord_48 (K : xk) (th : Nat) (x1 : Nat) : Option (Int32 × xk) := (xI K 3 0 x1).bind fun v1 => (xI K 9 3 th).bind fun v2 => if v2 < v1 then (some ((0 : Int32), K)) else some ((1 : Int32), K)
def kf_Log_takeRecord_0 (K : xk) (th : Nat) (x1 : Nat) : Option (Int32 × xk) := (xI K 3 1 x1).bind fun v1 => (xI K 9 3 th).bind fun v2 => if v1 = v2 then ((xI K 9 6 th).bind fun v3 => if (100 : Int32) ≤ v3 then (kf_Log_takeRecord_48 K th x1) else (xR K 9 5 th).bind fun v4 => (xI K 9 6 th).bind fun v5 => (v4).bind fun a7 => (xRt K 8 3 a7 v5 (some x1)).bind fun K6 => (xI K6 9 6 th).bind fun v8 => (xIs K6 9 6 th (v8 + (1 : Int32))).bind fun K9 => (xI K9 3 0 x1).bind fun v10 => (xIs K9 9 3 th v10).bind fun K11 => kf_Log_takeRecord_48 K11 th x1) else kf_Log_takeRecord_48 K th x1
/-! EpochStore$Log.receive(LEpochStore$Message;LEpochStore$Line;)V -/
def kf_Log_receive_50 (K : xk) (th : Nat) (x1 : Nat) (x2 : Nat) : Option xk := (xR K 4 9 x1).bind fun v1 => (v1).bind fun a2 => (xO K 9 th).bind fun _ => xp (kf_Log_takeRecord_0 K th a2) fun r5 K3 => if r5 = 0 then (some K3) else (xI K3 9 0 th).bind fun v6 => (xI K3 9 2 th).bind fun v7 => (xO K3 5 x2).bind fun _ => xp (kf_Line_send_0 K3 x2 (7 : Int32) v6 v7) fun r10 K8 => (xI K8 4 3 x1).bind fun v11 => (r10).bind fun a12 => (xIs K8 4 3 a12 v11).bind fun K13 => some K13
def kf_Log_receive_0 (K : xk) (th : Nat) (x1 : Nat) (x2 : Nat) : Option xk := (xI K 9 1 th).bind fun v1 => if v1 = 0 then (some K) else (xI K 4 2 x1).bind fun v2 => (xI K 9 2 th).bind fun v3 => if v2 = v3 then ((xI K 4 0 x1).bind fun v4 => if v4 = (2 : Int32) then ((xI K 9 0 th).bind fun v5 => (xI K 9 2 th).bind fun v6 => (xO K 5 x2).bind fun _ => xp (kf_Line_send_0 K x2 (3 : Int32) v5 v6) fun r9 K7 => (xI K7 4 5 x1).bind fun v10 => (r9).bind fun a11 => (xIs K7 4 5 a11 v10).bind fun K12 => some K12) else kf_Log_receive_50 K th x1 x2) else some K
/-! EpochStore$Client.receive(LEpochStore$Message;)V -/
def kf_Client_receive_44 (K : xk) (th : Nat) (x1 : Nat) : Option xk := (xI K 4 0 x1).bind fun v1 => if v1 = (8 : Int32) then ((xI K 11 3 th).bind fun v2 => if v2 = (3 : Int32) then ((xI K 4 6 x1).bind fun v3 => (xIs K 11 3 th v3).bind fun K4 => (xI K4 4 3 x1).bind fun v5 => (xIs K4 11 6 th v5).bind fun K6 => some K6) else some K) else some K
def kf_Client_receive_0 (K : xk) (th : Nat) (x1 : Nat) : Option xk := (xI K 4 4 x1).bind fun v1 => (xI K 11 2 th).bind fun v2 => if v1 = v2 then ((xI K 4 0 x1).bind fun v3 => if v3 = (4 : Int32) then ((xI K 11 3 th).bind fun v4 => if v4 = (1 : Int32) then ((xIs K 11 3 th (2 : Int32)).bind fun K5 => (xI K5 4 3 x1).bind fun v6 => (xIs K5 11 5 th v6).bind fun K7 => some K7) else kf_Client_receive_44 K th x1) else kf_Client_receive_44 K th x1) else some K
/-! EpochStore.isMaster(I)Z -/
def kf_ES_isMaster_0 (K : xk) (th : Nat) (x1 : Int32) : Option (Int32 × xk) := if x1 < (1 : Int32) then (some ((0 : Int32), K)) else if (9 : Int32) < x1 then (some ((0 : Int32), K)) else (xR K 0 4 th).bind fun v1 => (v1).bind fun a3 => (xRa K 6 a3 x1).bind fun v2 => if v2 = none then (some ((0 : Int32), K)) else some ((1 : Int32), K)
/-! EpochStore$Question.<init>(III)V -/
def kf_Question_init_0 (K : xk) (th : Nat) (x1 : Int32) (x2 : Int32) (x3 : Int32) : Option xk := (xIs K 6 0 th x1).bind fun K1 => (xIs K1 6 1 th x2).bind fun K2 => (xIs K2 6 2 th x3).bind fun K3 => some K3
/-! EpochStore$Master.openQuestion(LEpochStore$Message;LEpochStore$Line;)V -/
def kb_Master_openQuestion_60 (rec60 : xk → Nat → Nat → Int32 → Option xk) (K : xk) (th : Nat) (x2 : Nat) (x3 : Int32) : Option xk := if (3 : Int32) ≤ x3 then (some K) else (xI K 8 1 th).bind fun v1 => if (v1 &&& ((1 : Int32) <<< (x3 &&& 31))) = 0 then (rec60 K th x2 (x3 + (1 : Int32))) else (xI K 8 0 th).bind fun v2 => (xO K 5 x2).bind fun _ => xp (kf_Line_send_0 K x2 (2 : Int32) x3 v2) fun r5 K3 => (xI K3 8 9 th).bind fun v6 => (r5).bind fun a7 => (xIs K3 4 5 a7 v6).bind fun K8 => rec60 K8 th x2 (x3 + (1 : Int32))
def kf_Master_openQuestion_60 : Nat → xk → Nat → Nat → Int32 → Option xk
  | 0 => fun _ _ _ _ => none
  | n + 1 => kb_Master_openQuestion_60 (kf_Master_openQuestion_60 n)
def kf_Master_openQuestion_48 (K : xk) (th : Nat) (x2 : Nat) : Option xk := (xI K 8 8 th).bind fun v1 => (xIs K 8 8 th (v1 + (1 : Int32))).bind fun K2 => kf_Master_openQuestion_60 1000 K2 th x2 (0 : Int32)
def kf_Master_openQuestion_0 (K : xk) (th : Nat) (x1 : Nat) (x2 : Nat) : Option xk := (xI K 8 8 th).bind fun v1 => if v1 < (8 : Int32) then ((xI K 8 9 th).bind fun v2 => (xIs K 8 9 th (v2 + (1 : Int32))).bind fun K3 => (xR K3 8 7 th).bind fun v4 => (xI K3 8 8 th).bind fun v5 => xp (xNw K3 7 0) fun q6 K7 => (xI K7 8 9 th).bind fun v8 => (xI K7 4 1 x1).bind fun v9 => (xI K7 4 4 x1).bind fun v10 => (kf_Question_init_0 K7 q6 v8 v9 v10).bind fun K11 => (v4).bind fun a13 => (xRt K11 9 6 a13 v5 (some q6)).bind fun K12 => kf_Master_openQuestion_48 K12 th x2) else some K
/-! EpochStore$Master.placeOfQuestion(I)I -/
def kb_Master_placeOfQuestion_2 (rec2 : xk → Nat → Int32 → Int32 → Option (Int32 × xk)) (K : xk) (th : Nat) (x1 : Int32) (x2 : Int32) : Option (Int32 × xk) := (xI K 8 8 th).bind fun v1 => if v1 ≤ x2 then (some ((-1 : Int32), K)) else (xR K 8 7 th).bind fun v2 => (v2).bind fun a4 => (xRa K 9 a4 x2).bind fun v3 => (v3).bind fun a5 => (xI K 6 0 a5).bind fun v6 => if v6 = x1 then (some (x2, K)) else rec2 K th x1 (x2 + (1 : Int32))
def kf_Master_placeOfQuestion_2 : Nat → xk → Nat → Int32 → Int32 → Option (Int32 × xk)
  | 0 => fun _ _ _ _ => none
  | n + 1 => kb_Master_placeOfQuestion_2 (kf_Master_placeOfQuestion_2 n)
def kf_Master_placeOfQuestion_0 (K : xk) (th : Nat) (x1 : Int32) : Option (Int32 × xk) := kf_Master_placeOfQuestion_2 1000 K th x1 (0 : Int32)
/-! EpochStore$Master.answer(LEpochStore$Question;LEpochStore$Line;)V -/
def kf_Master_answer_0 (K : xk) (th : Nat) (x1 : Nat) (x2 : Nat) : Option xk := (xI K 6 1 x1).bind fun v1 => (xI K 8 0 th).bind fun v2 => (xO K 5 x2).bind fun _ => xp (kf_Line_send_0 K x2 (4 : Int32) v1 v2) fun r5 K3 => (xI K3 6 2 x1).bind fun v6 => (r5).bind fun a7 => (xIs K3 4 4 a7 v6).bind fun K8 => (xI K8 8 5 th).bind fun v9 => (xIs K8 4 3 a7 v9).bind fun K10 => some K10
/-! EpochStore$Master.removeQuestion(I)V -/
def kb_Master_removeQuestion_12 (rec12 : xk → Nat → Int32 → Option xk) (K : xk) (th : Nat) (x2 : Int32) : Option xk := (xI K 8 8 th).bind fun v1 => if v1 ≤ x2 then (some K) else (xR K 8 7 th).bind fun v2 => (xR K 8 7 th).bind fun v3 => (v3).bind fun a5 => (xRa K 9 a5 (x2 + (1 : Int32))).bind fun v4 => (v2).bind fun a7 => (xRt K 9 6 a7 x2 v4).bind fun K6 => rec12 K6 th (x2 + (1 : Int32))
def kf_Master_removeQuestion_12 : Nat → xk → Nat → Int32 → Option xk
  | 0 => fun _ _ _ => none
  | n + 1 => kb_Master_removeQuestion_12 (kf_Master_removeQuestion_12 n)
def kf_Master_removeQuestion_0 (K : xk) (th : Nat) (x1 : Int32) : Option xk := (xI K 8 8 th).bind fun v1 => (xIs K 8 8 th (v1 - (1 : Int32))).bind fun K2 => kf_Master_removeQuestion_12 1000 K2 th x1
/-! EpochStore$Master.takeConfirmation(LEpochStore$Message;LEpochStore$Line;)V -/
def kf_Master_takeConfirmation_51 (K : xk) (th : Nat) (x2 : Nat) (x3 : Int32) : Option xk := (xR K 8 7 th).bind fun v1 => (v1).bind fun a3 => (xRa K 9 a3 x3).bind fun v2 => (v2).bind fun a4 => (xO K 8 th).bind fun _ => (kf_Master_answer_0 K th a4 x2).bind fun K5 => (xO K5 8 th).bind fun _ => (kf_Master_removeQuestion_0 K5 th x3).bind fun K7 => some K7
def kf_Master_takeConfirmation_0 (K : xk) (th : Nat) (x1 : Nat) (x2 : Nat) : Option xk := (xI K 4 5 x1).bind fun v1 => (xO K 8 th).bind fun _ => xp (kf_Master_placeOfQuestion_0 K th v1) fun r4 K2 => if r4 = (-1 : Int32) then (some K2) else (xR K2 8 7 th).bind fun v5 => (v5).bind fun a7 => (xRa K2 9 a7 r4).bind fun v6 => (v6).bind fun a8 => (xI K2 6 3 a8).bind fun v9 => (xI K2 4 1 x1).bind fun v10 => (xIs K2 6 3 a8 (v9 ||| ((1 : Int32) <<< (v10 &&& 31)))).bind fun K11 => (xR K11 8 7 th).bind fun v12 => (v12).bind fun a14 => (xRa K11 9 a14 r4).bind fun v13 => (v13).bind fun a15 => (xI K11 6 3 a15).bind fun v16 => (xI K11 8 1 th).bind fun v17 => if v16 = v17 then (kf_Master_takeConfirmation_51 K11 th x2 r4) else some K11
section KW6
variable {p : Program} {l : Launch} {e : Env} {s : State} {m : MethodId} {args : Array Value} {below : List Frame} {meth : Method} {c : Code} {H : Heap} {locs : List Loc} {ls : Array Slot} {E : xe} {K K' : xk} {M M' : xm}
set_option maxHeartbeats 4000000 in
set_option maxRecDepth 100000 in
theorem kw_Log_takeRecord_48 {th : Nat} {x1 : Nat} {r : Int32} (C : xx_C p m c b_Log_takeRecord 2 s args Rn_Log E) (hlk : meth.locks = false) (hr : meth.sig.returnType = (some .boolean)) (hin : meth.name = "takeRecord") (X : xx_S E K M s H locs) (hl : lv_has ls 2 [(0, .ref th), (1, .ref x1)]) (h : kf_Log_takeRecord_48 K th x1 = some (r, K')) : W p l e { frames := 0, cells := 0, slots := 0, locals := 0 } s m args below meth c H locs 0 0 (MQ below (xq_i E K' M r) args s 0 0 (xe_A E)) (F0 m 48 ls []) := by
  have hx := C.1.1
  have hb := C.1.2.1
  unfold kf_Log_takeRecord_48 at h
  refine lv_aload_n hx hb d_Log_takeRecord_48 rfl (lv_at hl 1 rfl) ?_
  replace h := xb h
  obtain ⟨v1, hv, h⟩ := h
  refine xr_gi C X xc_Entry (by decide) 0 (by decide) (by decide) rfl m_221 d_Log_takeRecord_49 hv ?_
  refine lv_aload_n hx hb d_Log_takeRecord_52 rfl (lv_at hl 0 rfl) ?_
  replace h := xb h
  obtain ⟨v2, hv, h⟩ := h
  refine xr_gi C X xc_Log (by decide) 3 (by decide) (by decide) rfl m_17 d_Log_takeRecord_53 hv ?_
  refine lv_icmp_gt (tgt := 63) hx hb d_Log_takeRecord_56 (by decide +kernel) (fun hc => ?_) (fun hc => ?_)
  · rw [if_pos hc] at h
    refine lv_iconst hx hb d_Log_takeRecord_63 kn_i_0 ?_
    obtain ⟨rfl, rfl⟩ := Prod.mk.inj (Option.some.inj h)
    exact xr_zret C X hlk hr d_Log_takeRecord_64 rfl (Nat.le_of_ble_eq_true rfl) (Nat.le_of_ble_eq_true rfl)
  · rw [if_neg hc] at h
    refine lv_iconst hx hb d_Log_takeRecord_59 kn_i_1 ?_
    refine lv_goto (tgt := 64) hx hb d_Log_takeRecord_60 (by decide +kernel) ?_
    obtain ⟨rfl, rfl⟩ := Prod.mk.inj (Option.some.inj h)
    exact xr_zret C X hlk hr d_Log_takeRecord_64 rfl (Nat.le_of_ble_eq_true rfl) (Nat.le_of_ble_eq_true rfl)
set_option maxHeartbeats 4000000 in
set_option maxRecDepth 100000 in
theorem kw_Log_takeRecord_0 {th : Nat} {x1 : Nat} {r : Int32} (C : xx_C p m c b_Log_takeRecord 2 s args Rn_Log E) (hlk : meth.locks = false) (hr : meth.sig.returnType = (some .boolean)) (hin : meth.name = "takeRecord") (X : xx_S E K M s H locs) (hl : lv_has ls 2 [(0, .ref th), (1, .ref x1)]) (h : kf_Log_takeRecord_0 K th x1 = some (r, K')) : W p l e { frames := 0, cells := 0, slots := 0, locals := 0 } s m args below meth c H locs 0 0 (MQ below (xq_i E K' M r) args s 0 0 (xe_A E)) (F0 m 0 ls []) := by
  have hx := C.1.1
  have hb := C.1.2.1
  unfold kf_Log_takeRecord_0 at h
  refine lv_aload_n hx hb d_Log_takeRecord_0 rfl (lv_at hl 1 rfl) ?_
  replace h := xb h
  obtain ⟨v1, hv, h⟩ := h
  refine xr_gi C X xc_Entry (by decide) 1 (by decide) (by decide) rfl m_219 d_Log_takeRecord_1 hv ?_
  refine lv_aload_n hx hb d_Log_takeRecord_4 rfl (lv_at hl 0 rfl) ?_
  replace h := xb h
  obtain ⟨v2, hv, h⟩ := h
  refine xr_gi C X xc_Log (by decide) 3 (by decide) (by decide) rfl m_17 d_Log_takeRecord_5 hv ?_
  refine lv_icmp_ne (tgt := 48) hx hb d_Log_takeRecord_8 (by decide +kernel) (fun hc => ?_) (fun hc => ?_)
  · rw [if_neg hc] at h
    exact kw_Log_takeRecord_48 (th := th) (x1 := x1) C hlk hr hin  X (lv_sub hl [0, 1] rfl) h
  · rw [if_pos hc] at h
    refine lv_aload_n hx hb d_Log_takeRecord_11 rfl (lv_at hl 0 rfl) ?_
    replace h := xb h
    obtain ⟨v3, hv, h⟩ := h
    refine xr_gi C X xc_Log (by decide) 6 (by decide) (by decide) rfl m_220 d_Log_takeRecord_12 hv ?_
    refine lv_bipush hx hb d_Log_takeRecord_15 kn_b_100 ?_
    refine lv_icmp_ge (tgt := 48) hx hb d_Log_takeRecord_17 (by decide +kernel) (fun hc => ?_) (fun hc => ?_)
    · rw [if_pos hc] at h
      exact kw_Log_takeRecord_48 (th := th) (x1 := x1) C hlk hr hin  X (lv_sub hl [0, 1] rfl) h
    · rw [if_neg hc] at h
      refine lv_aload_n hx hb d_Log_takeRecord_20 rfl (lv_at hl 0 rfl) ?_
      replace h := xb h
      obtain ⟨v4, hv, h⟩ := h
      refine xr_gr C X xc_Log (by decide) 5 (by decide) (by decide) rfl m_21 d_Log_takeRecord_21 hv ?_
      refine lv_aload_n hx hb d_Log_takeRecord_24 rfl (lv_at hl 0 rfl) ?_
      replace h := xb h
      obtain ⟨v5, hv, h⟩ := h
      refine xr_gi C X xc_Log (by decide) 6 (by decide) (by decide) rfl m_220 d_Log_takeRecord_25 hv ?_
      refine lv_aload_n hx hb d_Log_takeRecord_28 rfl (lv_at hl 1 rfl) ?_
      replace h := xb h
      obtain ⟨a7, rfl, h⟩ := h
      replace h := xb h
      obtain ⟨K6, hv, h⟩ := h
      refine xr_aast (v := (some x1)) C X 8 3 (by decide) (by decide) rfl rfl rfl d_Log_takeRecord_29 hv (fun H locs X => ?_)
      refine lv_aload_n hx hb d_Log_takeRecord_30 rfl (lv_at hl 0 rfl) ?_
      refine lv_dup hx hb d_Log_takeRecord_31 rfl ?_
      replace h := xb h
      obtain ⟨v8, hv, h⟩ := h
      refine xr_gi C X xc_Log (by decide) 6 (by decide) (by decide) rfl m_220 d_Log_takeRecord_32 hv ?_
      refine lv_iconst hx hb d_Log_takeRecord_35 kn_i_1 ?_
      refine lv_iadd hx hb d_Log_takeRecord_36 ?_
      replace h := xb h
      obtain ⟨K9, hv, h⟩ := h
      refine xr_pi C X xc_Log (by decide) 6 (by decide) (by decide) rfl rfl rfl m_220 d_Log_takeRecord_37 hv (fun H locs X => ?_)
      refine lv_aload_n hx hb d_Log_takeRecord_40 rfl (lv_at hl 0 rfl) ?_
      refine lv_aload_n hx hb d_Log_takeRecord_41 rfl (lv_at hl 1 rfl) ?_
      replace h := xb h
      obtain ⟨v10, hv, h⟩ := h
      refine xr_gi C X xc_Entry (by decide) 0 (by decide) (by decide) rfl m_221 d_Log_takeRecord_42 hv ?_
      replace h := xb h
      obtain ⟨K11, hv, h⟩ := h
      refine xr_pi C X xc_Log (by decide) 3 (by decide) (by decide) rfl rfl rfl m_17 d_Log_takeRecord_45 hv (fun H locs X => ?_)
      exact kw_Log_takeRecord_48 (th := th) (x1 := x1) C hlk hr hin  X (lv_sub hl [0, 1] rfl) h
theorem kc_Log_takeRecord (l : Launch) (E : xe) {th : Nat} {x1 : Nat} {r : Int32} (h : kf_Log_takeRecord_0 K th x1 = some (r, K')) : Met l y_Log_takeRecord (Cond.code y_Log_takeRecord b_Log_takeRecord 2 (some .boolean) :: w_all) { frames := 0, cells := 0, slots := 0, locals := 0 } (va_Pc [.ref th, .ref x1] (fun U => xx_B E K M U)) (xq_i E K' M r) 0 0 (xe_A E) :=
  xr_met (by decide) (Nat.le_of_ble_eq_true rfl) fun p e s m below meth c ls C X hlk hr hin hl => kw_Log_takeRecord_0 C hlk hr hin X hl h
set_option maxHeartbeats 4000000 in
set_option maxRecDepth 100000 in
theorem kw_Log_receive_50 {th : Nat} {x1 : Nat} {x2 : Nat} (C : xx_C p m c b_Log_receive 3 s args Rn_Log E) (hlk : meth.locks = false) (hr : meth.sig.returnType = none) (hin : meth.name = "receive") (X : xx_S E K M s H locs) (hl : lv_has ls 3 [(0, .ref th), (1, .ref x1), (2, .ref x2)]) (h : kf_Log_receive_50 K th x1 x2 = some K') : W p l e { frames := 2, cells := 0, slots := 0, locals := 47 } s m args below meth c H locs 0 0 (MQ below (xq_v E K' M) args s 0 0 (xe_A E)) (F0 m 50 ls []) := by
  have hx := C.1.1
  have hb := C.1.2.1
  unfold kf_Log_receive_50 at h
  refine lv_aload_n hx hb d_Log_receive_50 rfl (lv_at hl 0 rfl) ?_
  refine lv_aload_n hx hb d_Log_receive_51 rfl (lv_at hl 1 rfl) ?_
  replace h := xb h
  obtain ⟨v1, hv, h⟩ := h
  refine xr_gr C X xc_Message (by decide) 9 (by decide) (by decide) rfl m_224 d_Log_receive_52 hv ?_
  replace h := xb h
  obtain ⟨a2, rfl, h⟩ := h
  replace h := xb h
  obtain ⟨_, hO4, h⟩ := h
  replace h := xpb h
  obtain ⟨r5, K3, hv, h⟩ := h
  refine xr_ki (va_runV (As := [.ref a2]) (rest := []) C.1 (kc_Log_takeRecord l E hv) (cwV 1 C.1.2.2.2.2 (xw_V m_225 m_226 m_227 m_78 m_228) rfl rfl rfl ky_Log_takeRecord ⟨(Nat.le_of_ble_eq_true rfl), (Nat.le_of_ble_eq_true rfl)⟩) (xr_pV C X xc_Log.1 (xk_Xo (xOk hO4) (by decide))) rfl rfl hl.1 rfl (lv_room (Nat.le_of_ble_eq_true rfl)) d_Log_receive_55 ⟨(Nat.le_of_ble_eq_true rfl), (Nat.le_of_ble_eq_true rfl)⟩) X (fun H locs X => ?_)
  refine lv_if_eq (tgt := 82) hx hb d_Log_receive_58 (by decide +kernel) (fun hc => ?_) (fun hc => ?_)
  · rw [if_pos hc] at h
    obtain rfl := Option.some.inj h
    exact xr_vret C X hlk hr d_Log_receive_82 (Nat.le_of_ble_eq_true rfl) (Nat.le_of_ble_eq_true rfl)
  · rw [if_neg hc] at h
    refine lv_aload_n hx hb d_Log_receive_61 rfl (lv_at hl 2 rfl) ?_
    refine lv_bipush hx hb d_Log_receive_62 kn_b_7 ?_
    refine lv_aload_n hx hb d_Log_receive_64 rfl (lv_at hl 0 rfl) ?_
    replace h := xb h
    obtain ⟨v6, hv, h⟩ := h
    refine xr_gi C X xc_Log (by decide) 0 (by decide) (by decide) rfl m_22 d_Log_receive_65 hv ?_
    refine lv_aload_n hx hb d_Log_receive_68 rfl (lv_at hl 0 rfl) ?_
    replace h := xb h
    obtain ⟨v7, hv, h⟩ := h
    refine xr_gi C X xc_Log (by decide) 2 (by decide) (by decide) rfl m_16 d_Log_receive_69 hv ?_
    replace h := xb h
    obtain ⟨_, hO9, h⟩ := h
    replace h := xpb h
    obtain ⟨r10, K8, hv, h⟩ := h
    refine xr_kr (va_runV (As := [.int (7 : Int32), .int v6, .int v7]) (rest := []) C.1 (kc_Line_send l E hv) (cwV 3 C.1.2.2.2.2 (xw_V m_229 m_132 m_133 m_68 m_134) rfl rfl rfl ky_Line_send ⟨(Nat.le_of_ble_eq_true rfl), (Nat.le_of_ble_eq_true rfl)⟩) (xr_pV C X xc_Line.1 (xk_Xo (xOk hO9) (by decide))) rfl rfl hl.1 rfl (lv_room (Nat.le_of_ble_eq_true rfl)) d_Log_receive_72 ⟨(Nat.le_of_ble_eq_true rfl), (Nat.le_of_ble_eq_true rfl)⟩) X (fun H locs X => ?_)
    refine lv_aload_n hx hb d_Log_receive_75 rfl (lv_at hl 1 rfl) ?_
    replace h := xb h
    obtain ⟨v11, hv, h⟩ := h
    refine xr_gi C X xc_Message (by decide) 3 (by decide) (by decide) rfl m_230 d_Log_receive_76 hv ?_
    replace h := xb h
    obtain ⟨a12, rfl, h⟩ := h
    replace h := xb h
    obtain ⟨K13, hv, h⟩ := h
    refine xr_pi C X xc_Message (by decide) 3 (by decide) (by decide) rfl rfl rfl m_230 d_Log_receive_79 hv (fun H locs X => ?_)
    obtain rfl := Option.some.inj h
    exact xr_vret C X hlk hr d_Log_receive_82 (Nat.le_of_ble_eq_true rfl) (Nat.le_of_ble_eq_true rfl)
set_option maxHeartbeats 4000000 in
set_option maxRecDepth 100000 in
theorem kw_Log_receive_0 {th : Nat} {x1 : Nat} {x2 : Nat} (C : xx_C p m c b_Log_receive 3 s args Rn_Log E) (hlk : meth.locks = false) (hr : meth.sig.returnType = none) (hin : meth.name = "receive") (X : xx_S E K M s H locs) (hl : lv_has ls 3 [(0, .ref th), (1, .ref x1), (2, .ref x2)]) (h : kf_Log_receive_0 K th x1 x2 = some K') : W p l e { frames := 2, cells := 0, slots := 0, locals := 47 } s m args below meth c H locs 0 0 (MQ below (xq_v E K' M) args s 0 0 (xe_A E)) (F0 m 0 ls []) := by
  have hx := C.1.1
  have hb := C.1.2.1
  unfold kf_Log_receive_0 at h
  refine lv_aload_n hx hb d_Log_receive_0 rfl (lv_at hl 0 rfl) ?_
  replace h := xb h
  obtain ⟨v1, hv, h⟩ := h
  refine xr_gi C X xc_Log (by decide) 1 (by decide) (by decide) rfl m_15 d_Log_receive_1 hv ?_
  refine lv_if_eq (tgt := 18) hx hb d_Log_receive_4 (by decide +kernel) (fun hc => ?_) (fun hc => ?_)
  · rw [if_pos hc] at h
    obtain rfl := Option.some.inj h
    exact xr_vret C X hlk hr d_Log_receive_18 (Nat.le_of_ble_eq_true rfl) (Nat.le_of_ble_eq_true rfl)
  · rw [if_neg hc] at h
    refine lv_aload_n hx hb d_Log_receive_7 rfl (lv_at hl 1 rfl) ?_
    replace h := xb h
    obtain ⟨v2, hv, h⟩ := h
    refine xr_gi C X xc_Message (by decide) 2 (by decide) (by decide) rfl m_222 d_Log_receive_8 hv ?_
    refine lv_aload_n hx hb d_Log_receive_11 rfl (lv_at hl 0 rfl) ?_
    replace h := xb h
    obtain ⟨v3, hv, h⟩ := h
    refine xr_gi C X xc_Log (by decide) 2 (by decide) (by decide) rfl m_16 d_Log_receive_12 hv ?_
    refine lv_icmp_eq (tgt := 19) hx hb d_Log_receive_15 (by decide +kernel) (fun hc => ?_) (fun hc => ?_)
    · rw [if_pos hc] at h
      refine lv_aload_n hx hb d_Log_receive_19 rfl (lv_at hl 1 rfl) ?_
      replace h := xb h
      obtain ⟨v4, hv, h⟩ := h
      refine xr_gi C X xc_Message (by decide) 0 (by decide) (by decide) rfl m_223 d_Log_receive_20 hv ?_
      refine lv_iconst hx hb d_Log_receive_23 kn_i_2 ?_
      refine lv_icmp_ne (tgt := 50) hx hb d_Log_receive_24 (by decide +kernel) (fun hc => ?_) (fun hc => ?_)
      · rw [if_neg hc] at h
        exact kw_Log_receive_50 (th := th) (x1 := x1) (x2 := x2) C hlk hr hin  X (lv_sub hl [0, 1, 2] rfl) h
      · rw [if_pos hc] at h
        refine lv_aload_n hx hb d_Log_receive_27 rfl (lv_at hl 2 rfl) ?_
        refine lv_iconst hx hb d_Log_receive_28 kn_i_3 ?_
        refine lv_aload_n hx hb d_Log_receive_29 rfl (lv_at hl 0 rfl) ?_
        replace h := xb h
        obtain ⟨v5, hv, h⟩ := h
        refine xr_gi C X xc_Log (by decide) 0 (by decide) (by decide) rfl m_22 d_Log_receive_30 hv ?_
        refine lv_aload_n hx hb d_Log_receive_33 rfl (lv_at hl 0 rfl) ?_
        replace h := xb h
        obtain ⟨v6, hv, h⟩ := h
        refine xr_gi C X xc_Log (by decide) 2 (by decide) (by decide) rfl m_16 d_Log_receive_34 hv ?_
        replace h := xb h
        obtain ⟨_, hO8, h⟩ := h
        replace h := xpb h
        obtain ⟨r9, K7, hv, h⟩ := h
        refine xr_kr (va_runV (As := [.int (3 : Int32), .int v5, .int v6]) (rest := []) C.1 (kc_Line_send l E hv) (cwV 3 C.1.2.2.2.2 (xw_V m_229 m_132 m_133 m_68 m_134) rfl rfl rfl ky_Line_send ⟨(Nat.le_of_ble_eq_true rfl), (Nat.le_of_ble_eq_true rfl)⟩) (xr_pV C X xc_Line.1 (xk_Xo (xOk hO8) (by decide))) rfl rfl hl.1 rfl (lv_room (Nat.le_of_ble_eq_true rfl)) d_Log_receive_37 ⟨(Nat.le_of_ble_eq_true rfl), (Nat.le_of_ble_eq_true rfl)⟩) X (fun H locs X => ?_)
        refine lv_aload_n hx hb d_Log_receive_40 rfl (lv_at hl 1 rfl) ?_
        replace h := xb h
        obtain ⟨v10, hv, h⟩ := h
        refine xr_gi C X xc_Message (by decide) 5 (by decide) (by decide) rfl m_231 d_Log_receive_41 hv ?_
        replace h := xb h
        obtain ⟨a11, rfl, h⟩ := h
        replace h := xb h
        obtain ⟨K12, hv, h⟩ := h
        refine xr_pi C X xc_Message (by decide) 5 (by decide) (by decide) rfl rfl rfl m_231 d_Log_receive_44 hv (fun H locs X => ?_)
        refine lv_goto (tgt := 82) hx hb d_Log_receive_47 (by decide +kernel) ?_
        obtain rfl := Option.some.inj h
        exact xr_vret C X hlk hr d_Log_receive_82 (Nat.le_of_ble_eq_true rfl) (Nat.le_of_ble_eq_true rfl)
    · rw [if_neg hc] at h
      obtain rfl := Option.some.inj h
      exact xr_vret C X hlk hr d_Log_receive_18 (Nat.le_of_ble_eq_true rfl) (Nat.le_of_ble_eq_true rfl)
theorem kc_Log_receive (l : Launch) (E : xe) {th : Nat} {x1 : Nat} {x2 : Nat} (h : kf_Log_receive_0 K th x1 x2 = some K') : Met l y_Log_receive (Cond.code y_Log_receive b_Log_receive 3 none :: w_all) { frames := 2, cells := 0, slots := 0, locals := 47 } (va_Pc [.ref th, .ref x1, .ref x2] (fun U => xx_B E K M U)) (xq_v E K' M) 0 0 (xe_A E) :=
  xr_met (by decide) (Nat.le_of_ble_eq_true rfl) fun p e s m below meth c ls C X hlk hr hin hl => kw_Log_receive_0 C hlk hr hin X hl h
set_option maxHeartbeats 4000000 in
set_option maxRecDepth 100000 in
theorem kw_Client_receive_44 {th : Nat} {x1 : Nat} (C : xx_C p m c b_Client_receive 2 s args Rn_Client E) (hlk : meth.locks = false) (hr : meth.sig.returnType = none) (hin : meth.name = "receive") (X : xx_S E K M s H locs) (hl : lv_has ls 2 [(0, .ref th), (1, .ref x1)]) (h : kf_Client_receive_44 K th x1 = some K') : W p l e { frames := 0, cells := 0, slots := 0, locals := 0 } s m args below meth c H locs 0 0 (MQ below (xq_v E K' M) args s 0 0 (xe_A E)) (F0 m 44 ls []) := by
  have hx := C.1.1
  have hb := C.1.2.1
  unfold kf_Client_receive_44 at h
  refine lv_aload_n hx hb d_Client_receive_44 rfl (lv_at hl 1 rfl) ?_
  replace h := xb h
  obtain ⟨v1, hv, h⟩ := h
  refine xr_gi C X xc_Message (by decide) 0 (by decide) (by decide) rfl m_232 d_Client_receive_45 hv ?_
  refine lv_bipush hx hb d_Client_receive_48 kn_b_8 ?_
  refine lv_icmp_ne (tgt := 77) hx hb d_Client_receive_50 (by decide +kernel) (fun hc => ?_) (fun hc => ?_)
  · rw [if_neg hc] at h
    obtain rfl := Option.some.inj h
    exact xr_vret C X hlk hr d_Client_receive_77 (Nat.le_of_ble_eq_true rfl) (Nat.le_of_ble_eq_true rfl)
  · rw [if_pos hc] at h
    refine lv_aload_n hx hb d_Client_receive_53 rfl (lv_at hl 0 rfl) ?_
    replace h := xb h
    obtain ⟨v2, hv, h⟩ := h
    refine xr_gi C X xc_Client (by decide) 3 (by decide) (by decide) rfl m_34 d_Client_receive_54 hv ?_
    refine lv_iconst hx hb d_Client_receive_57 kn_i_3 ?_
    refine lv_icmp_ne (tgt := 77) hx hb d_Client_receive_58 (by decide +kernel) (fun hc => ?_) (fun hc => ?_)
    · rw [if_neg hc] at h
      obtain rfl := Option.some.inj h
      exact xr_vret C X hlk hr d_Client_receive_77 (Nat.le_of_ble_eq_true rfl) (Nat.le_of_ble_eq_true rfl)
    · rw [if_pos hc] at h
      refine lv_aload_n hx hb d_Client_receive_61 rfl (lv_at hl 0 rfl) ?_
      refine lv_aload_n hx hb d_Client_receive_62 rfl (lv_at hl 1 rfl) ?_
      replace h := xb h
      obtain ⟨v3, hv, h⟩ := h
      refine xr_gi C X xc_Message (by decide) 6 (by decide) (by decide) rfl m_233 d_Client_receive_63 hv ?_
      replace h := xb h
      obtain ⟨K4, hv, h⟩ := h
      refine xr_pi C X xc_Client (by decide) 3 (by decide) (by decide) rfl rfl rfl m_34 d_Client_receive_66 hv (fun H locs X => ?_)
      refine lv_aload_n hx hb d_Client_receive_69 rfl (lv_at hl 0 rfl) ?_
      refine lv_aload_n hx hb d_Client_receive_70 rfl (lv_at hl 1 rfl) ?_
      replace h := xb h
      obtain ⟨v5, hv, h⟩ := h
      refine xr_gi C X xc_Message (by decide) 3 (by decide) (by decide) rfl m_192 d_Client_receive_71 hv ?_
      replace h := xb h
      obtain ⟨K6, hv, h⟩ := h
      refine xr_pi C X xc_Client (by decide) 6 (by decide) (by decide) rfl rfl rfl m_129 d_Client_receive_74 hv (fun H locs X => ?_)
      obtain rfl := Option.some.inj h
      exact xr_vret C X hlk hr d_Client_receive_77 (Nat.le_of_ble_eq_true rfl) (Nat.le_of_ble_eq_true rfl)
set_option maxHeartbeats 4000000 in
set_option maxRecDepth 100000 in
theorem kw_Client_receive_0 {th : Nat} {x1 : Nat} (C : xx_C p m c b_Client_receive 2 s args Rn_Client E) (hlk : meth.locks = false) (hr : meth.sig.returnType = none) (hin : meth.name = "receive") (X : xx_S E K M s H locs) (hl : lv_has ls 2 [(0, .ref th), (1, .ref x1)]) (h : kf_Client_receive_0 K th x1 = some K') : W p l e { frames := 0, cells := 0, slots := 0, locals := 0 } s m args below meth c H locs 0 0 (MQ below (xq_v E K' M) args s 0 0 (xe_A E)) (F0 m 0 ls []) := by
  have hx := C.1.1
  have hb := C.1.2.1
  unfold kf_Client_receive_0 at h
  refine lv_aload_n hx hb d_Client_receive_0 rfl (lv_at hl 1 rfl) ?_
  replace h := xb h
  obtain ⟨v1, hv, h⟩ := h
  refine xr_gi C X xc_Message (by decide) 4 (by decide) (by decide) rfl m_135 d_Client_receive_1 hv ?_
  refine lv_aload_n hx hb d_Client_receive_4 rfl (lv_at hl 0 rfl) ?_
  replace h := xb h
  obtain ⟨v2, hv, h⟩ := h
  refine xr_gi C X xc_Client (by decide) 2 (by decide) (by decide) rfl m_127 d_Client_receive_5 hv ?_
  refine lv_icmp_eq (tgt := 12) hx hb d_Client_receive_8 (by decide +kernel) (fun hc => ?_) (fun hc => ?_)
  · rw [if_pos hc] at h
    refine lv_aload_n hx hb d_Client_receive_12 rfl (lv_at hl 1 rfl) ?_
    replace h := xb h
    obtain ⟨v3, hv, h⟩ := h
    refine xr_gi C X xc_Message (by decide) 0 (by decide) (by decide) rfl m_232 d_Client_receive_13 hv ?_
    refine lv_iconst hx hb d_Client_receive_16 kn_i_4 ?_
    refine lv_icmp_ne (tgt := 44) hx hb d_Client_receive_17 (by decide +kernel) (fun hc => ?_) (fun hc => ?_)
    · rw [if_neg hc] at h
      exact kw_Client_receive_44 (th := th) (x1 := x1) C hlk hr hin  X (lv_sub hl [0, 1] rfl) h
    · rw [if_pos hc] at h
      refine lv_aload_n hx hb d_Client_receive_20 rfl (lv_at hl 0 rfl) ?_
      replace h := xb h
      obtain ⟨v4, hv, h⟩ := h
      refine xr_gi C X xc_Client (by decide) 3 (by decide) (by decide) rfl m_34 d_Client_receive_21 hv ?_
      refine lv_iconst hx hb d_Client_receive_24 kn_i_1 ?_
      refine lv_icmp_ne (tgt := 44) hx hb d_Client_receive_25 (by decide +kernel) (fun hc => ?_) (fun hc => ?_)
      · rw [if_neg hc] at h
        exact kw_Client_receive_44 (th := th) (x1 := x1) C hlk hr hin  X (lv_sub hl [0, 1] rfl) h
      · rw [if_pos hc] at h
        refine lv_aload_n hx hb d_Client_receive_28 rfl (lv_at hl 0 rfl) ?_
        refine lv_iconst hx hb d_Client_receive_29 kn_i_2 ?_
        replace h := xb h
        obtain ⟨K5, hv, h⟩ := h
        refine xr_pi C X xc_Client (by decide) 3 (by decide) (by decide) rfl rfl rfl m_34 d_Client_receive_30 hv (fun H locs X => ?_)
        refine lv_aload_n hx hb d_Client_receive_33 rfl (lv_at hl 0 rfl) ?_
        refine lv_aload_n hx hb d_Client_receive_34 rfl (lv_at hl 1 rfl) ?_
        replace h := xb h
        obtain ⟨v6, hv, h⟩ := h
        refine xr_gi C X xc_Message (by decide) 3 (by decide) (by decide) rfl m_192 d_Client_receive_35 hv ?_
        replace h := xb h
        obtain ⟨K7, hv, h⟩ := h
        refine xr_pi C X xc_Client (by decide) 5 (by decide) (by decide) rfl rfl rfl m_128 d_Client_receive_38 hv (fun H locs X => ?_)
        refine lv_goto (tgt := 77) hx hb d_Client_receive_41 (by decide +kernel) ?_
        obtain rfl := Option.some.inj h
        exact xr_vret C X hlk hr d_Client_receive_77 (Nat.le_of_ble_eq_true rfl) (Nat.le_of_ble_eq_true rfl)
  · rw [if_neg hc] at h
    obtain rfl := Option.some.inj h
    exact xr_vret C X hlk hr d_Client_receive_11 (Nat.le_of_ble_eq_true rfl) (Nat.le_of_ble_eq_true rfl)
theorem kc_Client_receive (l : Launch) (E : xe) {th : Nat} {x1 : Nat} (h : kf_Client_receive_0 K th x1 = some K') : Met l y_Client_receive (Cond.code y_Client_receive b_Client_receive 2 none :: w_all) { frames := 0, cells := 0, slots := 0, locals := 0 } (va_Pc [.ref th, .ref x1] (fun U => xx_B E K M U)) (xq_v E K' M) 0 0 (xe_A E) :=
  xr_met (by decide) (Nat.le_of_ble_eq_true rfl) fun p e s m below meth c ls C X hlk hr hin hl => kw_Client_receive_0 C hlk hr hin X hl h
set_option maxHeartbeats 4000000 in
set_option maxRecDepth 100000 in
theorem kw_ES_isMaster_0 {th : Nat} {x1 : Int32} {r : Int32} (C : xx_C p m c b_ES_isMaster 2 s args Rn_ES E) (hlk : meth.locks = false) (hr : meth.sig.returnType = (some .boolean)) (hin : meth.name = "isMaster") (X : xx_S E K M s H locs) (hl : lv_has ls 2 [(0, .ref th), (1, .int x1)]) (h : kf_ES_isMaster_0 K th x1 = some (r, K')) : W p l e { frames := 0, cells := 0, slots := 0, locals := 0 } s m args below meth c H locs 0 0 (MQ below (xq_i E K' M r) args s 0 0 (xe_A E)) (F0 m 0 ls []) := by
  have hx := C.1.1
  have hb := C.1.2.1
  unfold kf_ES_isMaster_0 at h
  refine lv_iload_n hx hb d_ES_isMaster_0 rfl (lv_at hl 1 rfl) ?_
  refine lv_iconst hx hb d_ES_isMaster_1 kn_i_1 ?_
  refine lv_icmp_lt (tgt := 24) hx hb d_ES_isMaster_2 (by decide +kernel) (fun hc => ?_) (fun hc => ?_)
  · rw [if_pos hc] at h
    refine lv_iconst hx hb d_ES_isMaster_24 kn_i_0 ?_
    obtain ⟨rfl, rfl⟩ := Prod.mk.inj (Option.some.inj h)
    exact xr_zret C X hlk hr d_ES_isMaster_25 rfl (Nat.le_of_ble_eq_true rfl) (Nat.le_of_ble_eq_true rfl)
  · rw [if_neg hc] at h
    refine lv_iload_n hx hb d_ES_isMaster_5 rfl (lv_at hl 1 rfl) ?_
    refine lv_bipush hx hb d_ES_isMaster_6 kn_b_9 ?_
    refine lv_icmp_gt (tgt := 24) hx hb d_ES_isMaster_8 (by decide +kernel) (fun hc => ?_) (fun hc => ?_)
    · rw [if_pos hc] at h
      refine lv_iconst hx hb d_ES_isMaster_24 kn_i_0 ?_
      obtain ⟨rfl, rfl⟩ := Prod.mk.inj (Option.some.inj h)
      exact xr_zret C X hlk hr d_ES_isMaster_25 rfl (Nat.le_of_ble_eq_true rfl) (Nat.le_of_ble_eq_true rfl)
    · rw [if_neg hc] at h
      refine lv_aload_n hx hb d_ES_isMaster_11 rfl (lv_at hl 0 rfl) ?_
      replace h := xb h
      obtain ⟨v1, hv, h⟩ := h
      refine xr_gr C X xc_ES (by decide) 4 (by decide) (by decide) rfl m_65 d_ES_isMaster_12 hv ?_
      refine lv_iload_n hx hb d_ES_isMaster_15 rfl (lv_at hl 1 rfl) ?_
      replace h := xb h
      obtain ⟨a3, rfl, h⟩ := h
      replace h := xb h
      obtain ⟨v2, hv, h⟩ := h
      refine xr_aald C X 6 (by decide) rfl rfl d_ES_isMaster_16 hv ?_
      refine xr_ifnull (v := v2) (tgt := 24) hx hb d_ES_isMaster_17 (by decide +kernel) (fun hc => ?_) (fun hc => ?_)
      · rw [if_pos hc] at h
        refine lv_iconst hx hb d_ES_isMaster_24 kn_i_0 ?_
        obtain ⟨rfl, rfl⟩ := Prod.mk.inj (Option.some.inj h)
        exact xr_zret C X hlk hr d_ES_isMaster_25 rfl (Nat.le_of_ble_eq_true rfl) (Nat.le_of_ble_eq_true rfl)
      · rw [if_neg hc] at h
        refine lv_iconst hx hb d_ES_isMaster_20 kn_i_1 ?_
        refine lv_goto (tgt := 25) hx hb d_ES_isMaster_21 (by decide +kernel) ?_
        obtain ⟨rfl, rfl⟩ := Prod.mk.inj (Option.some.inj h)
        exact xr_zret C X hlk hr d_ES_isMaster_25 rfl (Nat.le_of_ble_eq_true rfl) (Nat.le_of_ble_eq_true rfl)
theorem kc_ES_isMaster (l : Launch) (E : xe) {th : Nat} {x1 : Int32} {r : Int32} (h : kf_ES_isMaster_0 K th x1 = some (r, K')) : Met l y_ES_isMaster (Cond.code y_ES_isMaster b_ES_isMaster 2 (some .boolean) :: w_all) { frames := 0, cells := 0, slots := 0, locals := 0 } (va_Pc [.ref th, .int x1] (fun U => xx_B E K M U)) (xq_i E K' M r) 0 0 (xe_A E) :=
  xr_met (by decide) (Nat.le_of_ble_eq_true rfl) fun p e s m below meth c ls C X hlk hr hin hl => kw_ES_isMaster_0 C hlk hr hin X hl h
set_option maxHeartbeats 4000000 in
set_option maxRecDepth 100000 in
theorem kw_Question_init_0 {th : Nat} {x1 : Int32} {x2 : Int32} {x3 : Int32} (C : xx_C p m c b_Question_init 4 s args Rn_Question E) (hlk : meth.locks = false) (hr : meth.sig.returnType = none) (hin : meth.name = "<init>") (X : xx_S E K M s H locs) (hl : lv_has ls 4 [(0, .ref th), (1, .int x1), (2, .int x2), (3, .int x3)]) (h : kf_Question_init_0 K th x1 x2 x3 = some K') : W p l e { frames := 1, cells := 0, slots := 0, locals := 20 } s m args below meth c H locs 0 0 (MQ below (xq_v E K' M) args s 0 0 (xe_A E)) (F0 m 0 ls []) := by
  have hx := C.1.1
  have hb := C.1.2.1
  unfold kf_Question_init_0 at h
  refine lv_aload_n hx hb d_Question_init_0 rfl (lv_at hl 0 rfl) ?_
  refine W.objInit hx hb C.1.2.2.2.1 (C.1.2.2.2.2 _ m_234) (C.1.2.2.2.2 _ m_1) (C.1.2.2.2.2 _ m_2) rfl (by rw [C.1.2.2.1]; exact hl.1) rfl d_Question_init_1 (Nat.le_of_ble_eq_true rfl) (Nat.le_of_ble_eq_true rfl) ?_
  refine W.eq (g2 := F0 m 4 ls []) rfl ?_
  refine lv_aload_n hx hb d_Question_init_4 rfl (lv_at hl 0 rfl) ?_
  refine lv_iload_n hx hb d_Question_init_5 rfl (lv_at hl 1 rfl) ?_
  replace h := xb h
  obtain ⟨K1, hv, h⟩ := h
  refine xr_piF C X xc_Question (by decide) 0 (by decide) (by decide) rfl rfl rfl hin rfl m_235 d_Question_init_6 hv (fun H locs X => ?_)
  refine lv_aload_n hx hb d_Question_init_9 rfl (lv_at hl 0 rfl) ?_
  refine lv_iload_n hx hb d_Question_init_10 rfl (lv_at hl 2 rfl) ?_
  replace h := xb h
  obtain ⟨K2, hv, h⟩ := h
  refine xr_piF C X xc_Question (by decide) 1 (by decide) (by decide) rfl rfl rfl hin rfl m_236 d_Question_init_11 hv (fun H locs X => ?_)
  refine lv_aload_n hx hb d_Question_init_14 rfl (lv_at hl 0 rfl) ?_
  refine lv_iload_n hx hb d_Question_init_15 rfl (lv_at hl 3 rfl) ?_
  replace h := xb h
  obtain ⟨K3, hv, h⟩ := h
  refine xr_piF C X xc_Question (by decide) 2 (by decide) (by decide) rfl rfl rfl hin rfl m_237 d_Question_init_16 hv (fun H locs X => ?_)
  obtain rfl := Option.some.inj h
  exact xr_vret C X hlk hr d_Question_init_19 (Nat.le_of_ble_eq_true rfl) (Nat.le_of_ble_eq_true rfl)
theorem kc_Question_init (l : Launch) (E : xe) {th : Nat} {x1 : Int32} {x2 : Int32} {x3 : Int32} (h : kf_Question_init_0 K th x1 x2 x3 = some K') : Met l y_Question_init (Cond.code y_Question_init b_Question_init 4 none :: w_all) { frames := 1, cells := 0, slots := 0, locals := 20 } (va_Pc [.ref th, .int x1, .int x2, .int x3] (fun U => xx_B E K M U)) (xq_v E K' M) 0 0 (xe_A E) :=
  xr_met (by decide) (Nat.le_of_ble_eq_true rfl) fun p e s m below meth c ls C X hlk hr hin hl => kw_Question_init_0 C hlk hr hin X hl h
set_option maxHeartbeats 4000000 in
set_option maxRecDepth 100000 in
theorem kwb_Master_openQuestion_60 {rec60 : xk → Nat → Nat → Int32 → Option xk} {th : Nat} {x2 : Nat} {x3 : Int32} (C : xx_C p m c b_Master_openQuestion 4 s args Rn_Master E) (hlk : meth.locks = false) (hr : meth.sig.returnType = none) (hin : meth.name = "openQuestion") (hrec60 : ∀ {H : Heap} {locs : List Loc} {ls : Array Slot} {K : xk} {th : Nat} {x2 : Nat} {x3 : Int32}, xx_S E K M s H locs → lv_has ls 4 [(0, .ref th), (2, .ref x2), (3, .int x3)] → rec60 K th x2 x3 = some K' → W p l e { frames := 2, cells := 1, slots := 4, locals := 47 } s m args below meth c H locs 1 4 (MQ below (xq_v E K' M) args s 1 4 (xe_A E)) (F0 m 60 ls [])) (X : xx_S E K M s H locs) (hl : lv_has ls 4 [(0, .ref th), (2, .ref x2), (3, .int x3)]) (h : kb_Master_openQuestion_60 rec60 K th x2 x3 = some K') : W p l e { frames := 2, cells := 1, slots := 4, locals := 47 } s m args below meth c H locs 1 4 (MQ below (xq_v E K' M) args s 1 4 (xe_A E)) (F0 m 60 ls []) := by
  have hx := C.1.1
  have hb := C.1.2.1
  unfold kb_Master_openQuestion_60 at h
  refine lv_iload_n hx hb d_Master_openQuestion_60 rfl (lv_at hl 2 rfl) ?_
  refine lv_iconst hx hb d_Master_openQuestion_61 kn_i_3 ?_
  refine lv_icmp_ge (tgt := 99) hx hb d_Master_openQuestion_62 (by decide +kernel) (fun hc => ?_) (fun hc => ?_)
  · rw [if_pos hc] at h
    obtain rfl := Option.some.inj h
    exact xr_vret C X hlk hr d_Master_openQuestion_99 (Nat.le_of_ble_eq_true rfl) (Nat.le_of_ble_eq_true rfl)
  · rw [if_neg hc] at h
    refine lv_aload_n hx hb d_Master_openQuestion_65 rfl (lv_at hl 0 rfl) ?_
    replace h := xb h
    obtain ⟨v1, hv, h⟩ := h
    refine xr_gi C X xc_Master (by decide) 1 (by decide) (by decide) rfl m_50 d_Master_openQuestion_66 hv ?_
    refine lv_iconst hx hb d_Master_openQuestion_69 kn_i_1 ?_
    refine lv_iload_n hx hb d_Master_openQuestion_70 rfl (lv_at hl 2 rfl) ?_
    refine lv_ishl hx hb d_Master_openQuestion_71 ?_
    refine lv_iand hx hb d_Master_openQuestion_72 ?_
    refine lv_if_eq (tgt := 93) hx hb d_Master_openQuestion_73 (by decide +kernel) (fun hc => ?_) (fun hc => ?_)
    · rw [if_pos hc] at h
      refine lv_iinc (k := 2) (v := (x3 + (1 : Int32))) hx hb d_Master_openQuestion_93 hl rfl (congrArg (fun y : Int32 => x3 + y) kn_i_1) (by decide) rfl (fun ls hl => ?_)
      have hl : lv_has ls 4 [(3, .int (x3 + (1 : Int32))), (0, .ref th), (2, .ref x2)] := hl
      refine lv_goto (tgt := 60) hx hb d_Master_openQuestion_96 (by decide +kernel) ?_
      exact hrec60 (th := th) (x2 := x2) (x3 := (x3 + (1 : Int32))) X (lv_sub hl [1, 2, 0] rfl) h
    · rw [if_neg hc] at h
      refine lv_aload_n hx hb d_Master_openQuestion_76 rfl (lv_at hl 1 rfl) ?_
      refine lv_iconst hx hb d_Master_openQuestion_77 kn_i_2 ?_
      refine lv_iload_n hx hb d_Master_openQuestion_78 rfl (lv_at hl 2 rfl) ?_
      refine lv_aload_n hx hb d_Master_openQuestion_79 rfl (lv_at hl 0 rfl) ?_
      replace h := xb h
      obtain ⟨v2, hv, h⟩ := h
      refine xr_gi C X xc_Master (by decide) 0 (by decide) (by decide) rfl m_49 d_Master_openQuestion_80 hv ?_
      replace h := xb h
      obtain ⟨_, hO4, h⟩ := h
      replace h := xpb h
      obtain ⟨r5, K3, hv, h⟩ := h
      refine xr_kr (va_runV (As := [.int (2 : Int32), .int x3, .int v2]) (rest := []) C.1 (kc_Line_send l E hv) (cwV 3 C.1.2.2.2.2 (xw_V m_247 m_132 m_133 m_68 m_134) rfl rfl rfl ky_Line_send ⟨(Nat.le_of_ble_eq_true rfl), (Nat.le_of_ble_eq_true rfl)⟩) (xr_pV C X xc_Line.1 (xk_Xo (xOk hO4) (by decide))) rfl rfl hl.1 rfl (lv_room (Nat.le_of_ble_eq_true rfl)) d_Master_openQuestion_83 ⟨(Nat.le_of_ble_eq_true rfl), (Nat.le_of_ble_eq_true rfl)⟩) X (fun H locs X => ?_)
      refine lv_aload_n hx hb d_Master_openQuestion_86 rfl (lv_at hl 0 rfl) ?_
      replace h := xb h
      obtain ⟨v6, hv, h⟩ := h
      refine xr_gi C X xc_Master (by decide) 9 (by decide) (by decide) rfl m_239 d_Master_openQuestion_87 hv ?_
      replace h := xb h
      obtain ⟨a7, rfl, h⟩ := h
      replace h := xb h
      obtain ⟨K8, hv, h⟩ := h
      refine xr_pi C X xc_Message (by decide) 5 (by decide) (by decide) rfl rfl rfl m_248 d_Master_openQuestion_90 hv (fun H locs X => ?_)
      refine lv_iinc (k := 2) (v := (x3 + (1 : Int32))) hx hb d_Master_openQuestion_93 hl rfl (congrArg (fun y : Int32 => x3 + y) kn_i_1) (by decide) rfl (fun ls hl => ?_)
      have hl : lv_has ls 4 [(3, .int (x3 + (1 : Int32))), (0, .ref th), (2, .ref x2)] := hl
      refine lv_goto (tgt := 60) hx hb d_Master_openQuestion_96 (by decide +kernel) ?_
      exact hrec60 (th := th) (x2 := x2) (x3 := (x3 + (1 : Int32))) X (lv_sub hl [1, 2, 0] rfl) h
theorem kw_Master_openQuestion_60 (C : xx_C p m c b_Master_openQuestion 4 s args Rn_Master E) (hlk : meth.locks = false) (hr : meth.sig.returnType = none) (hin : meth.name = "openQuestion") : ∀ (n : Nat) {H : Heap} {locs : List Loc} {ls : Array Slot} {K : xk} {th : Nat} {x2 : Nat} {x3 : Int32}, xx_S E K M s H locs → lv_has ls 4 [(0, .ref th), (2, .ref x2), (3, .int x3)] → kf_Master_openQuestion_60 n K th x2 x3 = some K' → W p l e { frames := 2, cells := 1, slots := 4, locals := 47 } s m args below meth c H locs 1 4 (MQ below (xq_v E K' M) args s 1 4 (xe_A E)) (F0 m 60 ls []) := by
  intro n
  induction n with
  | zero => intro H locs ls K th x2 x3 X hl h; exact nomatch (show (none : Option xk) = some _ from h)
  | succ n ih => intro H locs ls K th x2 x3 X hl h; exact kwb_Master_openQuestion_60 C hlk hr hin ih X hl h
set_option maxHeartbeats 4000000 in
set_option maxRecDepth 100000 in
theorem kw_Master_openQuestion_48 {th : Nat} {x2 : Nat} (C : xx_C p m c b_Master_openQuestion 4 s args Rn_Master E) (hlk : meth.locks = false) (hr : meth.sig.returnType = none) (hin : meth.name = "openQuestion") (X : xx_S E K M s H locs) (hl : lv_has ls 4 [(0, .ref th), (2, .ref x2)]) (h : kf_Master_openQuestion_48 K th x2 = some K') : W p l e { frames := 2, cells := 1, slots := 4, locals := 47 } s m args below meth c H locs 1 4 (MQ below (xq_v E K' M) args s 1 4 (xe_A E)) (F0 m 48 ls []) := by
  have hx := C.1.1
  have hb := C.1.2.1
  unfold kf_Master_openQuestion_48 at h
  refine lv_aload_n hx hb d_Master_openQuestion_48 rfl (lv_at hl 0 rfl) ?_
  refine lv_dup hx hb d_Master_openQuestion_49 rfl ?_
  replace h := xb h
  obtain ⟨v1, hv, h⟩ := h
  refine xr_gi C X xc_Master (by decide) 8 (by decide) (by decide) rfl m_238 d_Master_openQuestion_50 hv ?_
  refine lv_iconst hx hb d_Master_openQuestion_53 kn_i_1 ?_
  refine lv_iadd hx hb d_Master_openQuestion_54 ?_
  replace h := xb h
  obtain ⟨K2, hv, h⟩ := h
  refine xr_pi C X xc_Master (by decide) 8 (by decide) (by decide) rfl rfl rfl m_238 d_Master_openQuestion_55 hv (fun H locs X => ?_)
  refine lv_iconst hx hb d_Master_openQuestion_58 kn_i_0 ?_
  refine lv_istore_n hx hb d_Master_openQuestion_59 rfl hl (by decide) rfl (fun ls hl => ?_)
  have hl : lv_has ls 4 [(3, .int (0 : Int32)), (0, .ref th), (2, .ref x2)] := hl
  exact kw_Master_openQuestion_60 C hlk hr hin 1000 X (lv_sub hl [1, 2, 0] rfl) h
set_option maxHeartbeats 4000000 in
set_option maxRecDepth 100000 in
theorem kw_Master_openQuestion_0 {th : Nat} {x1 : Nat} {x2 : Nat} (C : xx_C p m c b_Master_openQuestion 4 s args Rn_Master E) (hlk : meth.locks = false) (hr : meth.sig.returnType = none) (hin : meth.name = "openQuestion") (X : xx_S E K M s H locs) (hl : lv_has ls 4 [(0, .ref th), (1, .ref x1), (2, .ref x2)]) (h : kf_Master_openQuestion_0 K th x1 x2 = some K') : W p l e { frames := 2, cells := 1, slots := 4, locals := 47 } s m args below meth c H locs 0 0 (MQ below (xq_v E K' M) args s 1 4 (xe_A E)) (F0 m 0 ls []) := by
  have hx := C.1.1
  have hb := C.1.2.1
  unfold kf_Master_openQuestion_0 at h
  refine lv_aload_n hx hb d_Master_openQuestion_0 rfl (lv_at hl 0 rfl) ?_
  replace h := xb h
  obtain ⟨v1, hv, h⟩ := h
  refine xr_gi C X xc_Master (by decide) 8 (by decide) (by decide) rfl m_238 d_Master_openQuestion_1 hv ?_
  refine lv_bipush hx hb d_Master_openQuestion_4 kn_b_8 ?_
  refine lv_icmp_lt (tgt := 10) hx hb d_Master_openQuestion_6 (by decide +kernel) (fun hc => ?_) (fun hc => ?_)
  · rw [if_pos hc] at h
    refine lv_aload_n hx hb d_Master_openQuestion_10 rfl (lv_at hl 0 rfl) ?_
    refine lv_dup hx hb d_Master_openQuestion_11 rfl ?_
    replace h := xb h
    obtain ⟨v2, hv, h⟩ := h
    refine xr_gi C X xc_Master (by decide) 9 (by decide) (by decide) rfl m_239 d_Master_openQuestion_12 hv ?_
    refine lv_iconst hx hb d_Master_openQuestion_15 kn_i_1 ?_
    refine lv_iadd hx hb d_Master_openQuestion_16 ?_
    replace h := xb h
    obtain ⟨K3, hv, h⟩ := h
    refine xr_pi C X xc_Master (by decide) 9 (by decide) (by decide) rfl rfl rfl m_239 d_Master_openQuestion_17 hv (fun H locs X => ?_)
    refine lv_aload_n hx hb d_Master_openQuestion_20 rfl (lv_at hl 0 rfl) ?_
    replace h := xb h
    obtain ⟨v4, hv, h⟩ := h
    refine xr_gr C X xc_Master (by decide) 7 (by decide) (by decide) rfl m_46 d_Master_openQuestion_21 hv ?_
    refine lv_aload_n hx hb d_Master_openQuestion_24 rfl (lv_at hl 0 rfl) ?_
    replace h := xb h
    obtain ⟨v5, hv, h⟩ := h
    refine xr_gi C X xc_Master (by decide) 8 (by decide) (by decide) rfl m_238 d_Master_openQuestion_25 hv ?_
    replace h := xpb h
    obtain ⟨q6, K7, hv, h⟩ := h
    refine xr_new C X xc_Question (by decide) rfl xdf_Question m_45 m_240 m_241 d_Master_openQuestion_28 (Nat.le_of_ble_eq_true rfl) (Nat.le_of_ble_eq_true rfl) hv (fun H X => ?_)
    refine lv_dup hx hb d_Master_openQuestion_31 rfl ?_
    refine lv_aload_n hx hb d_Master_openQuestion_32 rfl (lv_at hl 0 rfl) ?_
    replace h := xb h
    obtain ⟨v8, hv, h⟩ := h
    refine xr_gi C X xc_Master (by decide) 9 (by decide) (by decide) rfl m_239 d_Master_openQuestion_33 hv ?_
    refine lv_aload_n hx hb d_Master_openQuestion_36 rfl (lv_at hl 1 rfl) ?_
    replace h := xb h
    obtain ⟨v9, hv, h⟩ := h
    refine xr_gi C X xc_Message (by decide) 1 (by decide) (by decide) rfl m_242 d_Master_openQuestion_37 hv ?_
    refine lv_aload_n hx hb d_Master_openQuestion_40 rfl (lv_at hl 1 rfl) ?_
    replace h := xb h
    obtain ⟨v10, hv, h⟩ := h
    refine xr_gi C X xc_Message (by decide) 4 (by decide) (by decide) rfl m_243 d_Master_openQuestion_41 hv ?_
    replace h := xb h
    obtain ⟨K11, hv, h⟩ := h
    refine xr_kv (va_runI (As := [.int v8, .int v9, .int v10]) (rest := [.ref q6, .int v5, va_rf v4]) C.1 (kc_Question_init l E hv) (cwI 3 C.1.2.2.2.2 (xw_in m_245) rfl rfl rfl (C.1.2.2.2.2 _ m_241) (C.1.2.2.2.2 _ m_244) (C.1.2.2.2.2 _ m_246) rfl ky_Question_init ⟨(Nat.le_of_ble_eq_true rfl), (Nat.le_of_ble_eq_true rfl)⟩) (xr_pS C X) rfl rfl hl.1 rfl (lv_room (by simp [xr_cat, xr_c_i, xr_c_a, xr_c_l])) d_Master_openQuestion_44 ⟨(Nat.le_of_ble_eq_true rfl), (Nat.le_of_ble_eq_true rfl)⟩) X (fun H locs X => ?_)
    replace h := xb h
    obtain ⟨a13, rfl, h⟩ := h
    replace h := xb h
    obtain ⟨K12, hv, h⟩ := h
    refine xr_aast (v := (some q6)) C X 9 6 (by decide) (by decide) rfl rfl rfl d_Master_openQuestion_47 hv (fun H locs X => ?_)
    exact kw_Master_openQuestion_48 (th := th) (x2 := x2) C hlk hr hin  X (lv_sub hl [0, 2] rfl) h
  · rw [if_neg hc] at h
    obtain rfl := Option.some.inj h
    exact xr_vret C X hlk hr d_Master_openQuestion_9 (Nat.le_of_ble_eq_true rfl) (Nat.le_of_ble_eq_true rfl)
theorem kc_Master_openQuestion (l : Launch) (E : xe) {th : Nat} {x1 : Nat} {x2 : Nat} (h : kf_Master_openQuestion_0 K th x1 x2 = some K') : Met l y_Master_openQuestion (Cond.code y_Master_openQuestion b_Master_openQuestion 4 none :: w_all) { frames := 2, cells := 1, slots := 4, locals := 47 } (va_Pc [.ref th, .ref x1, .ref x2] (fun U => xx_B E K M U)) (xq_v E K' M) 1 4 (xe_A E) :=
  xr_met (by decide) (Nat.le_of_ble_eq_true rfl) fun p e s m below meth c ls C X hlk hr hin hl => kw_Master_openQuestion_0 C hlk hr hin X hl h
set_option maxHeartbeats 4000000 in
set_option maxRecDepth 100000 in
theorem kwb_Master_placeOfQuestion_2 {rec2 : xk → Nat → Int32 → Int32 → Option (Int32 × xk)} {th : Nat} {x1 : Int32} {x2 : Int32} {r : Int32} (C : xx_C p m c b_Master_placeOfQuestion 3 s args Rn_Master E) (hlk : meth.locks = false) (hr : meth.sig.returnType = (some .int)) (hin : meth.name = "placeOfQuestion") (hrec2 : ∀ {H : Heap} {locs : List Loc} {ls : Array Slot} {K : xk} {th : Nat} {x1 : Int32} {x2 : Int32}, xx_S E K M s H locs → lv_has ls 3 [(0, .ref th), (1, .int x1), (2, .int x2)] → rec2 K th x1 x2 = some (r, K') → W p l e { frames := 0, cells := 0, slots := 0, locals := 0 } s m args below meth c H locs 0 0 (MQ below (xq_i E K' M r) args s 0 0 (xe_A E)) (F0 m 2 ls [])) (X : xx_S E K M s H locs) (hl : lv_has ls 3 [(0, .ref th), (1, .int x1), (2, .int x2)]) (h : kb_Master_placeOfQuestion_2 rec2 K th x1 x2 = some (r, K')) : W p l e { frames := 0, cells := 0, slots := 0, locals := 0 } s m args below meth c H locs 0 0 (MQ below (xq_i E K' M r) args s 0 0 (xe_A E)) (F0 m 2 ls []) := by
  have hx := C.1.1
  have hb := C.1.2.1
  unfold kb_Master_placeOfQuestion_2 at h
  refine lv_iload_n hx hb d_Master_placeOfQuestion_2 rfl (lv_at hl 2 rfl) ?_
  refine lv_aload_n hx hb d_Master_placeOfQuestion_3 rfl (lv_at hl 0 rfl) ?_
  replace h := xb h
  obtain ⟨v1, hv, h⟩ := h
  refine xr_gi C X xc_Master (by decide) 8 (by decide) (by decide) rfl m_238 d_Master_placeOfQuestion_4 hv ?_
  refine lv_icmp_ge (tgt := 31) hx hb d_Master_placeOfQuestion_7 (by decide +kernel) (fun hc => ?_) (fun hc => ?_)
  · rw [if_pos hc] at h
    refine lv_iconst hx hb d_Master_placeOfQuestion_31 kn_i_m1 ?_
    obtain ⟨rfl, rfl⟩ := Prod.mk.inj (Option.some.inj h)
    exact xr_iret C X hlk hr d_Master_placeOfQuestion_32 rfl (Nat.le_of_ble_eq_true rfl) (Nat.le_of_ble_eq_true rfl)
  · rw [if_neg hc] at h
    refine lv_aload_n hx hb d_Master_placeOfQuestion_10 rfl (lv_at hl 0 rfl) ?_
    replace h := xb h
    obtain ⟨v2, hv, h⟩ := h
    refine xr_gr C X xc_Master (by decide) 7 (by decide) (by decide) rfl m_46 d_Master_placeOfQuestion_11 hv ?_
    refine lv_iload_n hx hb d_Master_placeOfQuestion_14 rfl (lv_at hl 2 rfl) ?_
    replace h := xb h
    obtain ⟨a4, rfl, h⟩ := h
    replace h := xb h
    obtain ⟨v3, hv, h⟩ := h
    refine xr_aald C X 9 (by decide) rfl rfl d_Master_placeOfQuestion_15 hv ?_
    replace h := xb h
    obtain ⟨a5, rfl, h⟩ := h
    replace h := xb h
    obtain ⟨v6, hv, h⟩ := h
    refine xr_gi C X xc_Question (by decide) 0 (by decide) (by decide) rfl m_249 d_Master_placeOfQuestion_16 hv ?_
    refine lv_iload_n hx hb d_Master_placeOfQuestion_19 rfl (lv_at hl 1 rfl) ?_
    refine lv_icmp_ne (tgt := 25) hx hb d_Master_placeOfQuestion_20 (by decide +kernel) (fun hc => ?_) (fun hc => ?_)
    · rw [if_neg hc] at h
      refine lv_iinc (k := 2) (v := (x2 + (1 : Int32))) hx hb d_Master_placeOfQuestion_25 hl rfl (congrArg (fun y : Int32 => x2 + y) kn_i_1) (by decide) rfl (fun ls hl => ?_)
      have hl : lv_has ls 3 [(2, .int (x2 + (1 : Int32))), (0, .ref th), (1, .int x1)] := hl
      refine lv_goto (tgt := 2) hx hb d_Master_placeOfQuestion_28 (by decide +kernel) ?_
      exact hrec2 (th := th) (x1 := x1) (x2 := (x2 + (1 : Int32))) X (lv_sub hl [1, 2, 0] rfl) h
    · rw [if_pos hc] at h
      refine lv_iload_n hx hb d_Master_placeOfQuestion_23 rfl (lv_at hl 2 rfl) ?_
      obtain ⟨rfl, rfl⟩ := Prod.mk.inj (Option.some.inj h)
      exact xr_iret C X hlk hr d_Master_placeOfQuestion_24 rfl (Nat.le_of_ble_eq_true rfl) (Nat.le_of_ble_eq_true rfl)
theorem kw_Master_placeOfQuestion_2 {r : Int32} (C : xx_C p m c b_Master_placeOfQuestion 3 s args Rn_Master E) (hlk : meth.locks = false) (hr : meth.sig.returnType = (some .int)) (hin : meth.name = "placeOfQuestion") : ∀ (n : Nat) {H : Heap} {locs : List Loc} {ls : Array Slot} {K : xk} {th : Nat} {x1 : Int32} {x2 : Int32}, xx_S E K M s H locs → lv_has ls 3 [(0, .ref th), (1, .int x1), (2, .int x2)] → kf_Master_placeOfQuestion_2 n K th x1 x2 = some (r, K') → W p l e { frames := 0, cells := 0, slots := 0, locals := 0 } s m args below meth c H locs 0 0 (MQ below (xq_i E K' M r) args s 0 0 (xe_A E)) (F0 m 2 ls []) := by
  intro n
  induction n with
  | zero => intro H locs ls K th x1 x2 X hl h; exact nomatch (show (none : Option (Int32 × xk)) = some _ from h)
  | succ n ih => intro H locs ls K th x1 x2 X hl h; exact kwb_Master_placeOfQuestion_2 C hlk hr hin ih X hl h
set_option maxHeartbeats 4000000 in
set_option maxRecDepth 100000 in
theorem kw_Master_placeOfQuestion_0 {th : Nat} {x1 : Int32} {r : Int32} (C : xx_C p m c b_Master_placeOfQuestion 3 s args Rn_Master E) (hlk : meth.locks = false) (hr : meth.sig.returnType = (some .int)) (hin : meth.name = "placeOfQuestion") (X : xx_S E K M s H locs) (hl : lv_has ls 3 [(0, .ref th), (1, .int x1)]) (h : kf_Master_placeOfQuestion_0 K th x1 = some (r, K')) : W p l e { frames := 0, cells := 0, slots := 0, locals := 0 } s m args below meth c H locs 0 0 (MQ below (xq_i E K' M r) args s 0 0 (xe_A E)) (F0 m 0 ls []) := by
  have hx := C.1.1
  have hb := C.1.2.1
  unfold kf_Master_placeOfQuestion_0 at h
  refine lv_iconst hx hb d_Master_placeOfQuestion_0 kn_i_0 ?_
  refine lv_istore_n hx hb d_Master_placeOfQuestion_1 rfl hl (by decide) rfl (fun ls hl => ?_)
  have hl : lv_has ls 3 [(2, .int (0 : Int32)), (0, .ref th), (1, .int x1)] := hl
  exact kw_Master_placeOfQuestion_2 C hlk hr hin 1000 X (lv_sub hl [1, 2, 0] rfl) h
theorem kc_Master_placeOfQuestion (l : Launch) (E : xe) {th : Nat} {x1 : Int32} {r : Int32} (h : kf_Master_placeOfQuestion_0 K th x1 = some (r, K')) : Met l y_Master_placeOfQuestion (Cond.code y_Master_placeOfQuestion b_Master_placeOfQuestion 3 (some .int) :: w_all) { frames := 0, cells := 0, slots := 0, locals := 0 } (va_Pc [.ref th, .int x1] (fun U => xx_B E K M U)) (xq_i E K' M r) 0 0 (xe_A E) :=
  xr_met (by decide) (Nat.le_of_ble_eq_true rfl) fun p e s m below meth c ls C X hlk hr hin hl => kw_Master_placeOfQuestion_0 C hlk hr hin X hl h
set_option maxHeartbeats 4000000 in
set_option maxRecDepth 100000 in
theorem kw_Master_answer_0 {th : Nat} {x1 : Nat} {x2 : Nat} (C : xx_C p m c b_Master_answer 4 s args Rn_Master E) (hlk : meth.locks = false) (hr : meth.sig.returnType = none) (hin : meth.name = "answer") (X : xx_S E K M s H locs) (hl : lv_has ls 4 [(0, .ref th), (1, .ref x1), (2, .ref x2)]) (h : kf_Master_answer_0 K th x1 x2 = some K') : W p l e { frames := 2, cells := 0, slots := 0, locals := 47 } s m args below meth c H locs 0 0 (MQ below (xq_v E K' M) args s 0 0 (xe_A E)) (F0 m 0 ls []) := by
  have hx := C.1.1
  have hb := C.1.2.1
  unfold kf_Master_answer_0 at h
  refine lv_aload_n hx hb d_Master_answer_0 rfl (lv_at hl 2 rfl) ?_
  refine lv_iconst hx hb d_Master_answer_1 kn_i_4 ?_
  refine lv_aload_n hx hb d_Master_answer_2 rfl (lv_at hl 1 rfl) ?_
  replace h := xb h
  obtain ⟨v1, hv, h⟩ := h
  refine xr_gi C X xc_Question (by decide) 1 (by decide) (by decide) rfl m_250 d_Master_answer_3 hv ?_
  refine lv_aload_n hx hb d_Master_answer_6 rfl (lv_at hl 0 rfl) ?_
  replace h := xb h
  obtain ⟨v2, hv, h⟩ := h
  refine xr_gi C X xc_Master (by decide) 0 (by decide) (by decide) rfl m_49 d_Master_answer_7 hv ?_
  replace h := xb h
  obtain ⟨_, hO4, h⟩ := h
  replace h := xpb h
  obtain ⟨r5, K3, hv, h⟩ := h
  refine xr_kr (va_runV (As := [.int (4 : Int32), .int v1, .int v2]) (rest := []) C.1 (kc_Line_send l E hv) (cwV 3 C.1.2.2.2.2 (xw_V m_247 m_132 m_133 m_68 m_134) rfl rfl rfl ky_Line_send ⟨(Nat.le_of_ble_eq_true rfl), (Nat.le_of_ble_eq_true rfl)⟩) (xr_pV C X xc_Line.1 (xk_Xo (xOk hO4) (by decide))) rfl rfl hl.1 rfl (lv_room (Nat.le_of_ble_eq_true rfl)) d_Master_answer_10 ⟨(Nat.le_of_ble_eq_true rfl), (Nat.le_of_ble_eq_true rfl)⟩) X (fun H locs X => ?_)
  refine xr_astore_n hx hb d_Master_answer_13 rfl hl (by decide) rfl (fun ls hl => ?_)
  have hl : lv_has ls 4 [(3, va_rf r5), (0, .ref th), (1, .ref x1), (2, .ref x2)] := hl
  refine xr_aload_n hx hb d_Master_answer_14 rfl (lv_at hl 0 rfl) ?_
  refine lv_aload_n hx hb d_Master_answer_15 rfl (lv_at hl 2 rfl) ?_
  replace h := xb h
  obtain ⟨v6, hv, h⟩ := h
  refine xr_gi C X xc_Question (by decide) 2 (by decide) (by decide) rfl m_251 d_Master_answer_16 hv ?_
  replace h := xb h
  obtain ⟨a7, rfl, h⟩ := h
  replace h := xb h
  obtain ⟨K8, hv, h⟩ := h
  refine xr_pi C X xc_Message (by decide) 4 (by decide) (by decide) rfl rfl rfl m_243 d_Master_answer_19 hv (fun H locs X => ?_)
  refine lv_aload_n hx hb d_Master_answer_22 rfl (lv_at hl 0 rfl) ?_
  refine lv_aload_n hx hb d_Master_answer_23 rfl (lv_at hl 1 rfl) ?_
  replace h := xb h
  obtain ⟨v9, hv, h⟩ := h
  refine xr_gi C X xc_Master (by decide) 5 (by decide) (by decide) rfl m_54 d_Master_answer_24 hv ?_
  replace h := xb h
  obtain ⟨K10, hv, h⟩ := h
  refine xr_pi C X xc_Message (by decide) 3 (by decide) (by decide) rfl rfl rfl m_252 d_Master_answer_27 hv (fun H locs X => ?_)
  obtain rfl := Option.some.inj h
  exact xr_vret C X hlk hr d_Master_answer_30 (Nat.le_of_ble_eq_true rfl) (Nat.le_of_ble_eq_true rfl)
theorem kc_Master_answer (l : Launch) (E : xe) {th : Nat} {x1 : Nat} {x2 : Nat} (h : kf_Master_answer_0 K th x1 x2 = some K') : Met l y_Master_answer (Cond.code y_Master_answer b_Master_answer 4 none :: w_all) { frames := 2, cells := 0, slots := 0, locals := 47 } (va_Pc [.ref th, .ref x1, .ref x2] (fun U => xx_B E K M U)) (xq_v E K' M) 0 0 (xe_A E) :=
  xr_met (by decide) (Nat.le_of_ble_eq_true rfl) fun p e s m below meth c ls C X hlk hr hin hl => kw_Master_answer_0 C hlk hr hin X hl h
set_option maxHeartbeats 4000000 in
set_option maxRecDepth 100000 in
theorem kwb_Master_removeQuestion_12 {rec12 : xk → Nat → Int32 → Option xk} {th : Nat} {x2 : Int32} (C : xx_C p m c b_Master_removeQuestion 3 s args Rn_Master E) (hlk : meth.locks = false) (hr : meth.sig.returnType = none) (hin : meth.name = "removeQuestion") (hrec12 : ∀ {H : Heap} {locs : List Loc} {ls : Array Slot} {K : xk} {th : Nat} {x2 : Int32}, xx_S E K M s H locs → lv_has ls 3 [(0, .ref th), (2, .int x2)] → rec12 K th x2 = some K' → W p l e { frames := 0, cells := 0, slots := 0, locals := 0 } s m args below meth c H locs 0 0 (MQ below (xq_v E K' M) args s 0 0 (xe_A E)) (F0 m 12 ls [])) (X : xx_S E K M s H locs) (hl : lv_has ls 3 [(0, .ref th), (2, .int x2)]) (h : kb_Master_removeQuestion_12 rec12 K th x2 = some K') : W p l e { frames := 0, cells := 0, slots := 0, locals := 0 } s m args below meth c H locs 0 0 (MQ below (xq_v E K' M) args s 0 0 (xe_A E)) (F0 m 12 ls []) := by
  have hx := C.1.1
  have hb := C.1.2.1
  unfold kb_Master_removeQuestion_12 at h
  refine lv_iload_n hx hb d_Master_removeQuestion_12 rfl (lv_at hl 1 rfl) ?_
  refine lv_aload_n hx hb d_Master_removeQuestion_13 rfl (lv_at hl 0 rfl) ?_
  replace h := xb h
  obtain ⟨v1, hv, h⟩ := h
  refine xr_gi C X xc_Master (by decide) 8 (by decide) (by decide) rfl m_238 d_Master_removeQuestion_14 hv ?_
  refine lv_icmp_ge (tgt := 40) hx hb d_Master_removeQuestion_17 (by decide +kernel) (fun hc => ?_) (fun hc => ?_)
  · rw [if_pos hc] at h
    obtain rfl := Option.some.inj h
    exact xr_vret C X hlk hr d_Master_removeQuestion_40 (Nat.le_of_ble_eq_true rfl) (Nat.le_of_ble_eq_true rfl)
  · rw [if_neg hc] at h
    refine lv_aload_n hx hb d_Master_removeQuestion_20 rfl (lv_at hl 0 rfl) ?_
    replace h := xb h
    obtain ⟨v2, hv, h⟩ := h
    refine xr_gr C X xc_Master (by decide) 7 (by decide) (by decide) rfl m_46 d_Master_removeQuestion_21 hv ?_
    refine lv_iload_n hx hb d_Master_removeQuestion_24 rfl (lv_at hl 1 rfl) ?_
    refine lv_aload_n hx hb d_Master_removeQuestion_25 rfl (lv_at hl 0 rfl) ?_
    replace h := xb h
    obtain ⟨v3, hv, h⟩ := h
    refine xr_gr C X xc_Master (by decide) 7 (by decide) (by decide) rfl m_46 d_Master_removeQuestion_26 hv ?_
    refine lv_iload_n hx hb d_Master_removeQuestion_29 rfl (lv_at hl 1 rfl) ?_
    refine lv_iconst hx hb d_Master_removeQuestion_30 kn_i_1 ?_
    refine lv_iadd hx hb d_Master_removeQuestion_31 ?_
    replace h := xb h
    obtain ⟨a5, rfl, h⟩ := h
    replace h := xb h
    obtain ⟨v4, hv, h⟩ := h
    refine xr_aald C X 9 (by decide) rfl rfl d_Master_removeQuestion_32 hv ?_
    replace h := xb h
    obtain ⟨a7, rfl, h⟩ := h
    replace h := xb h
    obtain ⟨K6, hv, h⟩ := h
    refine xr_aast (v := v4) C X 9 6 (by decide) (by decide) rfl rfl rfl d_Master_removeQuestion_33 hv (fun H locs X => ?_)
    refine lv_iinc (k := 1) (v := (x2 + (1 : Int32))) hx hb d_Master_removeQuestion_34 hl rfl (congrArg (fun y : Int32 => x2 + y) kn_i_1) (by decide) rfl (fun ls hl => ?_)
    have hl : lv_has ls 3 [(2, .int (x2 + (1 : Int32))), (0, .ref th)] := hl
    refine lv_goto (tgt := 12) hx hb d_Master_removeQuestion_37 (by decide +kernel) ?_
    exact hrec12 (th := th) (x2 := (x2 + (1 : Int32))) X (lv_sub hl [1, 0] rfl) h
theorem kw_Master_removeQuestion_12 (C : xx_C p m c b_Master_removeQuestion 3 s args Rn_Master E) (hlk : meth.locks = false) (hr : meth.sig.returnType = none) (hin : meth.name = "removeQuestion") : ∀ (n : Nat) {H : Heap} {locs : List Loc} {ls : Array Slot} {K : xk} {th : Nat} {x2 : Int32}, xx_S E K M s H locs → lv_has ls 3 [(0, .ref th), (2, .int x2)] → kf_Master_removeQuestion_12 n K th x2 = some K' → W p l e { frames := 0, cells := 0, slots := 0, locals := 0 } s m args below meth c H locs 0 0 (MQ below (xq_v E K' M) args s 0 0 (xe_A E)) (F0 m 12 ls []) := by
  intro n
  induction n with
  | zero => intro H locs ls K th x2 X hl h; exact nomatch (show (none : Option xk) = some _ from h)
  | succ n ih => intro H locs ls K th x2 X hl h; exact kwb_Master_removeQuestion_12 C hlk hr hin ih X hl h
set_option maxHeartbeats 4000000 in
set_option maxRecDepth 100000 in
theorem kw_Master_removeQuestion_0 {th : Nat} {x1 : Int32} (C : xx_C p m c b_Master_removeQuestion 3 s args Rn_Master E) (hlk : meth.locks = false) (hr : meth.sig.returnType = none) (hin : meth.name = "removeQuestion") (X : xx_S E K M s H locs) (hl : lv_has ls 3 [(0, .ref th), (1, .int x1)]) (h : kf_Master_removeQuestion_0 K th x1 = some K') : W p l e { frames := 0, cells := 0, slots := 0, locals := 0 } s m args below meth c H locs 0 0 (MQ below (xq_v E K' M) args s 0 0 (xe_A E)) (F0 m 0 ls []) := by
  have hx := C.1.1
  have hb := C.1.2.1
  unfold kf_Master_removeQuestion_0 at h
  refine lv_aload_n hx hb d_Master_removeQuestion_0 rfl (lv_at hl 0 rfl) ?_
  refine lv_dup hx hb d_Master_removeQuestion_1 rfl ?_
  replace h := xb h
  obtain ⟨v1, hv, h⟩ := h
  refine xr_gi C X xc_Master (by decide) 8 (by decide) (by decide) rfl m_238 d_Master_removeQuestion_2 hv ?_
  refine lv_iconst hx hb d_Master_removeQuestion_5 kn_i_1 ?_
  refine lv_isub hx hb d_Master_removeQuestion_6 ?_
  replace h := xb h
  obtain ⟨K2, hv, h⟩ := h
  refine xr_pi C X xc_Master (by decide) 8 (by decide) (by decide) rfl rfl rfl m_238 d_Master_removeQuestion_7 hv (fun H locs X => ?_)
  refine lv_iload_n hx hb d_Master_removeQuestion_10 rfl (lv_at hl 1 rfl) ?_
  refine lv_istore_n hx hb d_Master_removeQuestion_11 rfl hl (by decide) rfl (fun ls hl => ?_)
  have hl : lv_has ls 3 [(2, .int x1), (0, .ref th), (1, .int x1)] := hl
  exact kw_Master_removeQuestion_12 C hlk hr hin 1000 X (lv_sub hl [1, 0] rfl) h
theorem kc_Master_removeQuestion (l : Launch) (E : xe) {th : Nat} {x1 : Int32} (h : kf_Master_removeQuestion_0 K th x1 = some K') : Met l y_Master_removeQuestion (Cond.code y_Master_removeQuestion b_Master_removeQuestion 3 none :: w_all) { frames := 0, cells := 0, slots := 0, locals := 0 } (va_Pc [.ref th, .int x1] (fun U => xx_B E K M U)) (xq_v E K' M) 0 0 (xe_A E) :=
  xr_met (by decide) (Nat.le_of_ble_eq_true rfl) fun p e s m below meth c ls C X hlk hr hin hl => kw_Master_removeQuestion_0 C hlk hr hin X hl h
set_option maxHeartbeats 4000000 in
set_option maxRecDepth 100000 in
theorem kw_Master_takeConfirmation_51 {th : Nat} {x2 : Nat} {x3 : Int32} (C : xx_C p m c b_Master_takeConfirmation 4 s args Rn_Master E) (hlk : meth.locks = false) (hr : meth.sig.returnType = none) (hin : meth.name = "takeConfirmation") (X : xx_S E K M s H locs) (hl : lv_has ls 4 [(0, .ref th), (2, .ref x2), (3, .int x3)]) (h : kf_Master_takeConfirmation_51 K th x2 x3 = some K') : W p l e { frames := 3, cells := 0, slots := 0, locals := 70 } s m args below meth c H locs 0 0 (MQ below (xq_v E K' M) args s 0 0 (xe_A E)) (F0 m 51 ls []) := by
  have hx := C.1.1
  have hb := C.1.2.1
  unfold kf_Master_takeConfirmation_51 at h
  refine lv_aload_n hx hb d_Master_takeConfirmation_51 rfl (lv_at hl 0 rfl) ?_
  refine lv_aload_n hx hb d_Master_takeConfirmation_52 rfl (lv_at hl 0 rfl) ?_
  replace h := xb h
  obtain ⟨v1, hv, h⟩ := h
  refine xr_gr C X xc_Master (by decide) 7 (by decide) (by decide) rfl m_46 d_Master_takeConfirmation_53 hv ?_
  refine lv_iload_n hx hb d_Master_takeConfirmation_56 rfl (lv_at hl 2 rfl) ?_
  replace h := xb h
  obtain ⟨a3, rfl, h⟩ := h
  replace h := xb h
  obtain ⟨v2, hv, h⟩ := h
  refine xr_aald C X 9 (by decide) rfl rfl d_Master_takeConfirmation_57 hv ?_
  refine lv_aload_n hx hb d_Master_takeConfirmation_58 rfl (lv_at hl 1 rfl) ?_
  replace h := xb h
  obtain ⟨a4, rfl, h⟩ := h
  replace h := xb h
  obtain ⟨_, hO6, h⟩ := h
  replace h := xb h
  obtain ⟨K5, hv, h⟩ := h
  refine xr_kv (va_runV (As := [.ref a4, .ref x2]) (rest := []) C.1 (kc_Master_answer l E hv) (cwV 2 C.1.2.2.2.2 (xw_V m_258 m_259 m_260 m_93 m_261) rfl rfl rfl ky_Master_answer ⟨(Nat.le_of_ble_eq_true rfl), (Nat.le_of_ble_eq_true rfl)⟩) (xr_pV C X xc_Master.1 (xk_Xo (xOk hO6) (by decide))) rfl rfl hl.1 rfl (lv_room (Nat.le_of_ble_eq_true rfl)) d_Master_takeConfirmation_59 ⟨(Nat.le_of_ble_eq_true rfl), (Nat.le_of_ble_eq_true rfl)⟩) X (fun H locs X => ?_)
  refine lv_aload_n hx hb d_Master_takeConfirmation_62 rfl (lv_at hl 0 rfl) ?_
  refine lv_iload_n hx hb d_Master_takeConfirmation_63 rfl (lv_at hl 2 rfl) ?_
  replace h := xb h
  obtain ⟨_, hO8, h⟩ := h
  replace h := xb h
  obtain ⟨K7, hv, h⟩ := h
  refine xr_kv (va_runV (As := [.int x3]) (rest := []) C.1 (kc_Master_removeQuestion l E hv) (cwV 1 C.1.2.2.2.2 (xw_V m_262 m_263 m_264 m_93 m_265) rfl rfl rfl ky_Master_removeQuestion ⟨(Nat.le_of_ble_eq_true rfl), (Nat.le_of_ble_eq_true rfl)⟩) (xr_pV C X xc_Master.1 (xk_Xo (xOk hO8) (by decide))) rfl rfl hl.1 rfl (lv_room (Nat.le_of_ble_eq_true rfl)) d_Master_takeConfirmation_64 ⟨(Nat.le_of_ble_eq_true rfl), (Nat.le_of_ble_eq_true rfl)⟩) X (fun H locs X => ?_)
  obtain rfl := Option.some.inj h
  exact xr_vret C X hlk hr d_Master_takeConfirmation_67 (Nat.le_of_ble_eq_true rfl) (Nat.le_of_ble_eq_true rfl)
set_option maxHeartbeats 4000000 in
set_option maxRecDepth 100000 in
theorem kw_Master_takeConfirmation_0 {th : Nat} {x1 : Nat} {x2 : Nat} (C : xx_C p m c b_Master_takeConfirmation 4 s args Rn_Master E) (hlk : meth.locks = false) (hr : meth.sig.returnType = none) (hin : meth.name = "takeConfirmation") (X : xx_S E K M s H locs) (hl : lv_has ls 4 [(0, .ref th), (1, .ref x1), (2, .ref x2)]) (h : kf_Master_takeConfirmation_0 K th x1 x2 = some K') : W p l e { frames := 3, cells := 0, slots := 0, locals := 70 } s m args below meth c H locs 0 0 (MQ below (xq_v E K' M) args s 0 0 (xe_A E)) (F0 m 0 ls []) := by
  have hx := C.1.1
  have hb := C.1.2.1
  unfold kf_Master_takeConfirmation_0 at h
  refine lv_aload_n hx hb d_Master_takeConfirmation_0 rfl (lv_at hl 0 rfl) ?_
  refine lv_aload_n hx hb d_Master_takeConfirmation_1 rfl (lv_at hl 1 rfl) ?_
  replace h := xb h
  obtain ⟨v1, hv, h⟩ := h
  refine xr_gi C X xc_Message (by decide) 5 (by decide) (by decide) rfl m_248 d_Master_takeConfirmation_2 hv ?_
  replace h := xb h
  obtain ⟨_, hO3, h⟩ := h
  replace h := xpb h
  obtain ⟨r4, K2, hv, h⟩ := h
  refine xr_ki (va_runV (As := [.int v1]) (rest := []) C.1 (kc_Master_placeOfQuestion l E hv) (cwV 1 C.1.2.2.2.2 (xw_V m_253 m_254 m_255 m_93 m_256) rfl rfl rfl ky_Master_placeOfQuestion ⟨(Nat.le_of_ble_eq_true rfl), (Nat.le_of_ble_eq_true rfl)⟩) (xr_pV C X xc_Master.1 (xk_Xo (xOk hO3) (by decide))) rfl rfl hl.1 rfl (lv_room (Nat.le_of_ble_eq_true rfl)) d_Master_takeConfirmation_5 ⟨(Nat.le_of_ble_eq_true rfl), (Nat.le_of_ble_eq_true rfl)⟩) X (fun H locs X => ?_)
  refine lv_istore_n hx hb d_Master_takeConfirmation_8 rfl hl (by decide) rfl (fun ls hl => ?_)
  have hl : lv_has ls 4 [(3, .int r4), (0, .ref th), (1, .ref x1), (2, .ref x2)] := hl
  refine lv_iload_n hx hb d_Master_takeConfirmation_9 rfl (lv_at hl 0 rfl) ?_
  refine lv_iconst hx hb d_Master_takeConfirmation_10 kn_i_m1 ?_
  refine lv_icmp_ne (tgt := 15) hx hb d_Master_takeConfirmation_11 (by decide +kernel) (fun hc => ?_) (fun hc => ?_)
  · rw [if_neg hc] at h
    refine lv_aload_n hx hb d_Master_takeConfirmation_15 rfl (lv_at hl 1 rfl) ?_
    replace h := xb h
    obtain ⟨v5, hv, h⟩ := h
    refine xr_gr C X xc_Master (by decide) 7 (by decide) (by decide) rfl m_46 d_Master_takeConfirmation_16 hv ?_
    refine lv_iload_n hx hb d_Master_takeConfirmation_19 rfl (lv_at hl 0 rfl) ?_
    replace h := xb h
    obtain ⟨a7, rfl, h⟩ := h
    replace h := xb h
    obtain ⟨v6, hv, h⟩ := h
    refine xr_aald C X 9 (by decide) rfl rfl d_Master_takeConfirmation_20 hv ?_
    refine lv_dup hx hb d_Master_takeConfirmation_21 (xr_cat _) ?_
    replace h := xb h
    obtain ⟨a8, rfl, h⟩ := h
    replace h := xb h
    obtain ⟨v9, hv, h⟩ := h
    refine xr_gi C X xc_Question (by decide) 3 (by decide) (by decide) rfl m_257 d_Master_takeConfirmation_22 hv ?_
    refine lv_iconst hx hb d_Master_takeConfirmation_25 kn_i_1 ?_
    refine lv_aload_n hx hb d_Master_takeConfirmation_26 rfl (lv_at hl 2 rfl) ?_
    replace h := xb h
    obtain ⟨v10, hv, h⟩ := h
    refine xr_gi C X xc_Message (by decide) 1 (by decide) (by decide) rfl m_242 d_Master_takeConfirmation_27 hv ?_
    refine lv_ishl hx hb d_Master_takeConfirmation_30 ?_
    refine lv_ior hx hb d_Master_takeConfirmation_31 ?_
    replace h := xb h
    obtain ⟨K11, hv, h⟩ := h
    refine xr_pi C X xc_Question (by decide) 3 (by decide) (by decide) rfl rfl rfl m_257 d_Master_takeConfirmation_32 hv (fun H locs X => ?_)
    refine lv_aload_n hx hb d_Master_takeConfirmation_35 rfl (lv_at hl 1 rfl) ?_
    replace h := xb h
    obtain ⟨v12, hv, h⟩ := h
    refine xr_gr C X xc_Master (by decide) 7 (by decide) (by decide) rfl m_46 d_Master_takeConfirmation_36 hv ?_
    refine lv_iload_n hx hb d_Master_takeConfirmation_39 rfl (lv_at hl 0 rfl) ?_
    replace h := xb h
    obtain ⟨a14, rfl, h⟩ := h
    replace h := xb h
    obtain ⟨v13, hv, h⟩ := h
    refine xr_aald C X 9 (by decide) rfl rfl d_Master_takeConfirmation_40 hv ?_
    replace h := xb h
    obtain ⟨a15, rfl, h⟩ := h
    replace h := xb h
    obtain ⟨v16, hv, h⟩ := h
    refine xr_gi C X xc_Question (by decide) 3 (by decide) (by decide) rfl m_257 d_Master_takeConfirmation_41 hv ?_
    refine lv_aload_n hx hb d_Master_takeConfirmation_44 rfl (lv_at hl 1 rfl) ?_
    replace h := xb h
    obtain ⟨v17, hv, h⟩ := h
    refine xr_gi C X xc_Master (by decide) 1 (by decide) (by decide) rfl m_50 d_Master_takeConfirmation_45 hv ?_
    refine lv_icmp_ne (tgt := 67) hx hb d_Master_takeConfirmation_48 (by decide +kernel) (fun hc => ?_) (fun hc => ?_)
    · rw [if_neg hc] at h
      obtain rfl := Option.some.inj h
      exact xr_vret C X hlk hr d_Master_takeConfirmation_67 (Nat.le_of_ble_eq_true rfl) (Nat.le_of_ble_eq_true rfl)
    · rw [if_pos hc] at h
      exact kw_Master_takeConfirmation_51 (th := th) (x2 := x2) (x3 := r4) C hlk hr hin  X (lv_sub hl [1, 3, 0] rfl) h
  · rw [if_pos hc] at h
    obtain rfl := Option.some.inj h
    exact xr_vret C X hlk hr d_Master_takeConfirmation_14 (Nat.le_of_ble_eq_true rfl) (Nat.le_of_ble_eq_true rfl)
theorem kc_Master_takeConfirmation (l : Launch) (E : xe) {th : Nat} {x1 : Nat} {x2 : Nat} (h : kf_Master_takeConfirmation_0 K th x1 x2 = some K') : Met l y_Master_takeConfirmation (Cond.code y_Master_takeConfirmation b_Master_takeConfirmation 4 none :: w_all) { frames := 3, cells := 0, slots := 0, locals := 70 } (va_Pc [.ref th, .ref x1, .ref x2] (fun U => xx_B E K M U)) (xq_v E K' M) 0 0 (xe_A E) :=
  xr_met (by decide) (Nat.le_of_ble_eq_true rfl) fun p e s m below meth c ls C X hlk hr hin hl => kw_Master_takeConfirmation_0 C hlk hr hin X hl h
end KW6
