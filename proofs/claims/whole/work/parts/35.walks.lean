/-! EpochStoreModel.<init>()V -/
def kb_EM_init_584 (rec584 : xk → Nat → Int32 → Option xk) (K : xk) (th : Nat) (x1 : Int32) : Option xk := if (8 : Int32) ≤ x1 then (some K) else (xR K 12 23 th).bind fun v1 => (v1).bind fun a3 => (xIt K 0 a3 ((8 : Int32) + x1) (10 : Int32)).bind fun K2 => rec584 K2 th (x1 + (1 : Int32))
def kf_EM_init_584 : Nat → xk → Nat → Int32 → Option xk
  | 0 => fun _ _ _ => none
  | n + 1 => kb_EM_init_584 (kf_EM_init_584 n)
def kf_EM_init_558 (K : xk) (th : Nat) : Option xk := (xR K 12 20 th).bind fun v1 => (v1).bind fun a3 => (xIt K 0 a3 (1 : Int32) (10 : Int32)).bind fun K2 => (xR K2 12 21 th).bind fun v4 => (v4).bind fun a6 => (xIt K2 0 a6 (1 : Int32) (10 : Int32)).bind fun K5 => (xR K5 12 22 th).bind fun v7 => (v7).bind fun a9 => (xIt K5 0 a9 (1 : Int32) (10 : Int32)).bind fun K8 => kf_EM_init_584 1000 K8 th (0 : Int32)
def kf_EM_init_510 (K : xk) (th : Nat) : Option xk := xp (xNw K 100 25) fun q1 K2 => (xRs K2 12 53 th (some q1)).bind fun K3 => xp (xNw K3 100 25) fun q4 K5 => (xRs K5 12 54 th (some q4)).bind fun K6 => xp (xNw K6 100 200) fun q7 K8 => (xRs K8 12 55 th (some q7)).bind fun K9 => (xR K9 12 17 th).bind fun v10 => (v10).bind fun a12 => (xZt K9 1 a12 (1 : Int32) (1 : Int32)).bind fun K11 => (xR K11 12 18 th).bind fun v13 => (v13).bind fun a15 => (xIt K11 0 a15 (1 : Int32) (7 : Int32)).bind fun K14 => (xR K14 12 19 th).bind fun v16 => (v16).bind fun a18 => (xIt K14 0 a18 (1 : Int32) (10 : Int32)).bind fun K17 => kf_EM_init_558 K17 th
def kf_EM_init_463 (K : xk) (th : Nat) : Option xk := xp (xNw K 100 3) fun q1 K2 => (xRs K2 12 46 th (some q1)).bind fun K3 => xp (xNw K3 100 25) fun q4 K5 => (xRs K5 12 48 th (some q4)).bind fun K6 => xp (xNw K6 100 25) fun q7 K8 => (xRs K8 12 49 th (some q7)).bind fun K9 => xp (xNw K9 100 25) fun q10 K11 => (xRs K11 12 50 th (some q10)).bind fun K12 => xp (xNw K12 100 25) fun q13 K14 => (xRs K14 12 51 th (some q13)).bind fun K15 => xp (xNw K15 100 25) fun q16 K17 => (xRs K17 12 52 th (some q16)).bind fun K18 => kf_EM_init_510 K18 th
def kf_EM_init_420 (K : xk) (th : Nat) : Option xk := xp (xNw K 100 3) fun q1 K2 => (xRs K2 12 40 th (some q1)).bind fun K3 => xp (xNw K3 100 3) fun q4 K5 => (xRs K5 12 41 th (some q4)).bind fun K6 => xp (xNw K6 100 3) fun q7 K8 => (xRs K8 12 42 th (some q7)).bind fun K9 => xp (xNw K9 100 3) fun q10 K11 => (xRs K11 12 43 th (some q10)).bind fun K12 => xp (xNw K12 100 3) fun q13 K14 => (xRs K14 12 44 th (some q13)).bind fun K15 => xp (xNw K15 100 24) fun q16 K17 => (xRs K17 12 45 th (some q16)).bind fun K18 => kf_EM_init_463 K18 th
def kf_EM_init_386 (K : xk) (th : Nat) : Option xk := xp (xNw K 100 80) fun q1 K2 => (xRs K2 12 37 th (some q1)).bind fun K3 => xp (xNw K3 100 3) fun q4 K5 => (xIt K5 0 q4 (0 : Int32) (1 : Int32)).bind fun K6 => (xIt K6 0 q4 (1 : Int32) (1 : Int32)).bind fun K7 => (xIt K7 0 q4 (2 : Int32) (1 : Int32)).bind fun K8 => (xRs K8 12 38 th (some q4)).bind fun K9 => xp (xNw K9 100 3) fun q10 K11 => (xRs K11 12 39 th (some q10)).bind fun K12 => kf_EM_init_420 K12 th
def kf_EM_init_337 (K : xk) (th : Nat) : Option xk := xp (xNw K 100 80) fun q1 K2 => (xRs K2 12 31 th (some q1)).bind fun K3 => xp (xNw K3 100 80) fun q4 K5 => (xRs K5 12 32 th (some q4)).bind fun K6 => xp (xNw K6 100 80) fun q7 K8 => (xRs K8 12 33 th (some q7)).bind fun K9 => xp (xNw K9 100 640) fun q10 K11 => (xRs K11 12 34 th (some q10)).bind fun K12 => xp (xNw K12 100 80) fun q13 K14 => (xRs K14 12 35 th (some q13)).bind fun K15 => xp (xNw K15 100 80) fun q16 K17 => (xRs K17 12 36 th (some q16)).bind fun K18 => kf_EM_init_386 K18 th
def kf_EM_init_289 (K : xk) (th : Nat) : Option xk := xp (xNw K 100 10) fun q1 K2 => (xRs K2 12 25 th (some q1)).bind fun K3 => xp (xNw K3 100 80) fun q4 K5 => (xRs K5 12 26 th (some q4)).bind fun K6 => xp (xNw K6 100 80) fun q7 K8 => (xRs K8 12 27 th (some q7)).bind fun K9 => xp (xNw K9 100 80) fun q10 K11 => (xRs K11 12 28 th (some q10)).bind fun K12 => xp (xNw K12 100 80) fun q13 K14 => (xRs K14 12 29 th (some q13)).bind fun K15 => xp (xNw K15 100 10) fun q16 K17 => (xRs K17 12 30 th (some q16)).bind fun K18 => kf_EM_init_337 K18 th
def kf_EM_init_241 (K : xk) (th : Nat) : Option xk := xp (xNw K 100 10) fun q1 K2 => (xRs K2 12 19 th (some q1)).bind fun K3 => xp (xNw K3 100 10) fun q4 K5 => (xRs K5 12 20 th (some q4)).bind fun K6 => xp (xNw K6 100 10) fun q7 K8 => (xRs K8 12 21 th (some q7)).bind fun K9 => xp (xNw K9 100 10) fun q10 K11 => (xRs K11 12 22 th (some q10)).bind fun K12 => xp (xNw K12 100 80) fun q13 K14 => (xRs K14 12 23 th (some q13)).bind fun K15 => xp (xNw K15 100 10) fun q16 K17 => (xRs K17 12 24 th (some q16)).bind fun K18 => kf_EM_init_289 K18 th
def kf_EM_init_191 (K : xk) (th : Nat) : Option xk := xp (xNw K 100 2) fun q1 K2 => (xRs K2 12 13 th (some q1)).bind fun K3 => xp (xNw K3 100 256) fun q4 K5 => (xRs K5 12 14 th (some q4)).bind fun K6 => xp (xNw K6 100 256) fun q7 K8 => (xRs K8 12 15 th (some q7)).bind fun K9 => xp (xNw K9 100 2048) fun q10 K11 => (xRs K11 12 16 th (some q10)).bind fun K12 => xp (xNw K12 101 10) fun q13 K14 => (xRs K14 12 17 th (some q13)).bind fun K15 => xp (xNw K15 100 10) fun q16 K17 => (xRs K17 12 18 th (some q16)).bind fun K18 => kf_EM_init_241 K18 th
def kf_EM_init_159 (K : xk) (th : Nat) : Option xk := xp (xNw K 101 2) fun q1 K2 => (xZt K2 1 q1 (0 : Int32) (1 : Int32)).bind fun K3 => (xZt K3 1 q1 (1 : Int32) (1 : Int32)).bind fun K4 => (xRs K4 12 11 th (some q1)).bind fun K5 => xp (xNw K5 100 2) fun q6 K7 => (xIt K7 0 q6 (0 : Int32) (10 : Int32)).bind fun K8 => (xIt K8 0 q6 (1 : Int32) (10 : Int32)).bind fun K9 => (xRs K9 12 12 th (some q6)).bind fun K10 => kf_EM_init_191 K10 th
def kf_EM_init_118 (K : xk) (th : Nat) : Option xk := xp (xNw K 100 300) fun q1 K2 => (xRs K2 12 7 th (some q1)).bind fun K3 => xp (xNw K3 100 2400) fun q4 K5 => (xRs K5 12 8 th (some q4)).bind fun K6 => xp (xNw K6 100 30) fun q7 K8 => (xRs K8 12 9 th (some q7)).bind fun K9 => xp (xNw K9 100 2) fun q10 K11 => (xIt K11 0 q10 (0 : Int32) (1 : Int32)).bind fun K12 => (xIt K12 0 q10 (1 : Int32) (1 : Int32)).bind fun K13 => (xRs K13 12 10 th (some q10)).bind fun K14 => kf_EM_init_159 K14 th
def kf_EM_init_80 (K : xk) (th : Nat) : Option xk := xp (xNw K 100 3) fun q1 K2 => (xIt K2 0 q1 (0 : Int32) (10 : Int32)).bind fun K3 => (xIt K3 0 q1 (1 : Int32) (10 : Int32)).bind fun K4 => (xIt K4 0 q1 (2 : Int32) (10 : Int32)).bind fun K5 => (xRs K5 12 4 th (some q1)).bind fun K6 => xp (xNw K6 100 3) fun q7 K8 => (xRs K8 12 5 th (some q7)).bind fun K9 => xp (xNw K9 100 300) fun q10 K11 => (xRs K11 12 6 th (some q10)).bind fun K12 => kf_EM_init_118 K12 th
def kf_EM_init_42 (K : xk) (th : Nat) : Option xk := xp (xNw K 100 3) fun q1 K2 => (xIt K2 0 q1 (0 : Int32) (1 : Int32)).bind fun K3 => (xIt K3 0 q1 (1 : Int32) (1 : Int32)).bind fun K4 => (xIt K4 0 q1 (2 : Int32) (1 : Int32)).bind fun K5 => (xRs K5 12 2 th (some q1)).bind fun K6 => xp (xNw K6 101 3) fun q7 K8 => (xZt K8 1 q7 (0 : Int32) (1 : Int32)).bind fun K9 => (xZt K9 1 q7 (1 : Int32) (1 : Int32)).bind fun K10 => (xZt K10 1 q7 (2 : Int32) (1 : Int32)).bind fun K11 => (xRs K11 12 3 th (some q7)).bind fun K12 => kf_EM_init_80 K12 th
def kf_EM_init_0 (K : xk) (th : Nat) : Option xk := xp (xNw K 100 3) fun q1 K2 => (xIt K2 0 q1 (0 : Int32) (1 : Int32)).bind fun K3 => (xIt K3 0 q1 (1 : Int32) (1 : Int32)).bind fun K4 => (xIt K4 0 q1 (2 : Int32) (1 : Int32)).bind fun K5 => (xRs K5 12 0 th (some q1)).bind fun K6 => xp (xNw K6 101 3) fun q7 K8 => (xZt K8 1 q7 (0 : Int32) (1 : Int32)).bind fun K9 => (xZt K9 1 q7 (1 : Int32) (1 : Int32)).bind fun K10 => (xZt K10 1 q7 (2 : Int32) (1 : Int32)).bind fun K11 => (xRs K11 12 1 th (some q7)).bind fun K12 => kf_EM_init_42 K12 th
section KW12
variable {p : Program} {l : Launch} {e : Env} {s : State} {m : MethodId} {args : Array Value} {below : List Frame} {meth : Method} {c : Code} {H : Heap} {locs : List Loc} {ls : Array Slot} {E : xe} {K K' : xk} {M M' : xm}
set_option maxHeartbeats 4000000 in
set_option maxRecDepth 100000 in
theorem kwb_EM_init_584 {rec584 : xk → Nat → Int32 → Option xk} {th : Nat} {x1 : Int32} (C : xx_C p m c b_EM_init 2 s args Rn_EM E) (hlk : meth.locks = false) (hr : meth.sig.returnType = none) (hin : meth.name = "<init>") (hrec584 : ∀ {H : Heap} {locs : List Loc} {ls : Array Slot} {K : xk} {th : Nat} {x1 : Int32}, xx_S E K M s H locs → lv_has ls 2 [(0, .ref th), (1, .int x1)] → rec584 K th x1 = some K' → W p l e { frames := 1, cells := 55, slots := 7649, locals := 20 } s m args below meth c H locs 55 7649 (MQ below (xq_v E K' M) args s 55 7649 (xe_A E)) (F0 m 584 ls [])) (X : xx_S E K M s H locs) (hl : lv_has ls 2 [(0, .ref th), (1, .int x1)]) (h : kb_EM_init_584 rec584 K th x1 = some K') : W p l e { frames := 1, cells := 55, slots := 7649, locals := 20 } s m args below meth c H locs 55 7649 (MQ below (xq_v E K' M) args s 55 7649 (xe_A E)) (F0 m 584 ls []) := by
  have hx := C.1.1
  have hb := C.1.2.1
  unfold kb_EM_init_584 at h
  refine lv_iload_n hx hb d_EM_init_584 rfl (lv_at hl 1 rfl) ?_
  refine lv_bipush hx hb d_EM_init_585 kn_b_8 ?_
  refine lv_icmp_ge (tgt := 607) hx hb d_EM_init_587 (by decide +kernel) (fun hc => ?_) (fun hc => ?_)
  · rw [if_pos hc] at h
    obtain rfl := Option.some.inj h
    exact xr_vret C X hlk hr d_EM_init_607 (Nat.le_of_ble_eq_true rfl) (Nat.le_of_ble_eq_true rfl)
  · rw [if_neg hc] at h
    refine lv_aload_n hx hb d_EM_init_590 rfl (lv_at hl 0 rfl) ?_
    replace h := xb h
    obtain ⟨v1, hv, h⟩ := h
    refine xr_gr C X xc_EM (by decide) 23 (by decide) (by decide) rfl m_485 d_EM_init_591 hv ?_
    refine lv_bipush hx hb d_EM_init_594 kn_b_8 ?_
    refine lv_iload_n hx hb d_EM_init_596 rfl (lv_at hl 1 rfl) ?_
    refine lv_iadd hx hb d_EM_init_597 ?_
    refine lv_bipush hx hb d_EM_init_598 kn_b_10 ?_
    replace h := xb h
    obtain ⟨a3, rfl, h⟩ := h
    replace h := xb h
    obtain ⟨K2, hv, h⟩ := h
    refine xr_iast C X 0 (by decide) rfl rfl d_EM_init_600 hv (fun H locs X => ?_)
    refine lv_iinc (k := 1) (v := (x1 + (1 : Int32))) hx hb d_EM_init_601 hl rfl (congrArg (fun y : Int32 => x1 + y) kn_i_1) (by decide) rfl (fun ls hl => ?_)
    have hl : lv_has ls 2 [(1, .int (x1 + (1 : Int32))), (0, .ref th)] := hl
    refine lv_goto (tgt := 584) hx hb d_EM_init_604 (by decide +kernel) ?_
    exact hrec584 (th := th) (x1 := (x1 + (1 : Int32))) X (lv_sub hl [1, 0] rfl) h
theorem kw_EM_init_584 (C : xx_C p m c b_EM_init 2 s args Rn_EM E) (hlk : meth.locks = false) (hr : meth.sig.returnType = none) (hin : meth.name = "<init>") : ∀ (n : Nat) {H : Heap} {locs : List Loc} {ls : Array Slot} {K : xk} {th : Nat} {x1 : Int32}, xx_S E K M s H locs → lv_has ls 2 [(0, .ref th), (1, .int x1)] → kf_EM_init_584 n K th x1 = some K' → W p l e { frames := 1, cells := 55, slots := 7649, locals := 20 } s m args below meth c H locs 55 7649 (MQ below (xq_v E K' M) args s 55 7649 (xe_A E)) (F0 m 584 ls []) := by
  intro n
  induction n with
  | zero => intro H locs ls K th x1 X hl h; exact nomatch (show (none : Option xk) = some _ from h)
  | succ n ih => intro H locs ls K th x1 X hl h; exact kwb_EM_init_584 C hlk hr hin ih X hl h
set_option maxHeartbeats 4000000 in
set_option maxRecDepth 100000 in
theorem kw_EM_init_558 {th : Nat} (C : xx_C p m c b_EM_init 2 s args Rn_EM E) (hlk : meth.locks = false) (hr : meth.sig.returnType = none) (hin : meth.name = "<init>") (X : xx_S E K M s H locs) (hl : lv_has ls 2 [(0, .ref th)]) (h : kf_EM_init_558 K th = some K') : W p l e { frames := 1, cells := 55, slots := 7649, locals := 20 } s m args below meth c H locs 55 7649 (MQ below (xq_v E K' M) args s 55 7649 (xe_A E)) (F0 m 558 ls []) := by
  have hx := C.1.1
  have hb := C.1.2.1
  unfold kf_EM_init_558 at h
  refine lv_aload_n hx hb d_EM_init_558 rfl (lv_at hl 0 rfl) ?_
  replace h := xb h
  obtain ⟨v1, hv, h⟩ := h
  refine xr_gr C X xc_EM (by decide) 20 (by decide) (by decide) rfl m_482 d_EM_init_559 hv ?_
  refine lv_iconst hx hb d_EM_init_562 kn_i_1 ?_
  refine lv_bipush hx hb d_EM_init_563 kn_b_10 ?_
  replace h := xb h
  obtain ⟨a3, rfl, h⟩ := h
  replace h := xb h
  obtain ⟨K2, hv, h⟩ := h
  refine xr_iast C X 0 (by decide) rfl rfl d_EM_init_565 hv (fun H locs X => ?_)
  refine lv_aload_n hx hb d_EM_init_566 rfl (lv_at hl 0 rfl) ?_
  replace h := xb h
  obtain ⟨v4, hv, h⟩ := h
  refine xr_gr C X xc_EM (by decide) 21 (by decide) (by decide) rfl m_483 d_EM_init_567 hv ?_
  refine lv_iconst hx hb d_EM_init_570 kn_i_1 ?_
  refine lv_bipush hx hb d_EM_init_571 kn_b_10 ?_
  replace h := xb h
  obtain ⟨a6, rfl, h⟩ := h
  replace h := xb h
  obtain ⟨K5, hv, h⟩ := h
  refine xr_iast C X 0 (by decide) rfl rfl d_EM_init_573 hv (fun H locs X => ?_)
  refine lv_aload_n hx hb d_EM_init_574 rfl (lv_at hl 0 rfl) ?_
  replace h := xb h
  obtain ⟨v7, hv, h⟩ := h
  refine xr_gr C X xc_EM (by decide) 22 (by decide) (by decide) rfl m_484 d_EM_init_575 hv ?_
  refine lv_iconst hx hb d_EM_init_578 kn_i_1 ?_
  refine lv_bipush hx hb d_EM_init_579 kn_b_10 ?_
  replace h := xb h
  obtain ⟨a9, rfl, h⟩ := h
  replace h := xb h
  obtain ⟨K8, hv, h⟩ := h
  refine xr_iast C X 0 (by decide) rfl rfl d_EM_init_581 hv (fun H locs X => ?_)
  refine lv_iconst hx hb d_EM_init_582 kn_i_0 ?_
  refine lv_istore_n hx hb d_EM_init_583 rfl hl (by decide) rfl (fun ls hl => ?_)
  have hl : lv_has ls 2 [(1, .int (0 : Int32)), (0, .ref th)] := hl
  exact kw_EM_init_584 C hlk hr hin 1000 X (lv_sub hl [1, 0] rfl) h
set_option maxHeartbeats 4000000 in
set_option maxRecDepth 100000 in
theorem kw_EM_init_510 {th : Nat} (C : xx_C p m c b_EM_init 2 s args Rn_EM E) (hlk : meth.locks = false) (hr : meth.sig.returnType = none) (hin : meth.name = "<init>") (X : xx_S E K M s H locs) (hl : lv_has ls 2 [(0, .ref th)]) (h : kf_EM_init_510 K th = some K') : W p l e { frames := 1, cells := 55, slots := 7649, locals := 20 } s m args below meth c H locs 52 7399 (MQ below (xq_v E K' M) args s 55 7649 (xe_A E)) (F0 m 510 ls []) := by
  have hx := C.1.1
  have hb := C.1.2.1
  unfold kf_EM_init_510 at h
  refine lv_aload_n hx hb d_EM_init_510 rfl (lv_at hl 0 rfl) ?_
  refine lv_bipush hx hb d_EM_init_511 kn_b_25 ?_
  replace h := xpb h
  obtain ⟨q1, K2, hv, h⟩ := h
  refine xr_newa (ty := .int) (atype := .int) C X 0 (N := 25) rfl (by decide) rfl rfl (fun h => h) m_18 rfl (by decide +kernel) (by decide +kernel) (by decide +kernel) d_EM_init_513 (Nat.le_of_ble_eq_true rfl) (Nat.le_of_ble_eq_true rfl) hv (fun H X => ?_)
  replace h := xb h
  obtain ⟨K3, hv, h⟩ := h
  refine xr_pr (v := (some q1)) C X xc_EM (by decide) 53 (by decide) (by decide) rfl (Or.inr ⟨_, rfl⟩) rfl m_514 d_EM_init_515 hv (fun H locs X => ?_)
  refine lv_aload_n hx hb d_EM_init_518 rfl (lv_at hl 0 rfl) ?_
  refine lv_bipush hx hb d_EM_init_519 kn_b_25 ?_
  replace h := xpb h
  obtain ⟨q4, K5, hv, h⟩ := h
  refine xr_newa (ty := .int) (atype := .int) C X 0 (N := 25) rfl (by decide) rfl rfl (fun h => h) m_18 rfl (by decide +kernel) (by decide +kernel) (by decide +kernel) d_EM_init_521 (Nat.le_of_ble_eq_true rfl) (Nat.le_of_ble_eq_true rfl) hv (fun H X => ?_)
  replace h := xb h
  obtain ⟨K6, hv, h⟩ := h
  refine xr_pr (v := (some q4)) C X xc_EM (by decide) 54 (by decide) (by decide) rfl (Or.inr ⟨_, rfl⟩) rfl m_515 d_EM_init_523 hv (fun H locs X => ?_)
  refine lv_aload_n hx hb d_EM_init_526 rfl (lv_at hl 0 rfl) ?_
  refine lv_sipush hx hb d_EM_init_527 kn_s_200 ?_
  replace h := xpb h
  obtain ⟨q7, K8, hv, h⟩ := h
  refine xr_newa (ty := .int) (atype := .int) C X 0 (N := 200) rfl (by decide) rfl rfl (fun h => h) m_18 rfl (by decide +kernel) (by decide +kernel) (by decide +kernel) d_EM_init_530 (Nat.le_of_ble_eq_true rfl) (Nat.le_of_ble_eq_true rfl) hv (fun H X => ?_)
  replace h := xb h
  obtain ⟨K9, hv, h⟩ := h
  refine xr_pr (v := (some q7)) C X xc_EM (by decide) 55 (by decide) (by decide) rfl (Or.inr ⟨_, rfl⟩) rfl m_516 d_EM_init_532 hv (fun H locs X => ?_)
  refine lv_aload_n hx hb d_EM_init_535 rfl (lv_at hl 0 rfl) ?_
  replace h := xb h
  obtain ⟨v10, hv, h⟩ := h
  refine xr_gr C X xc_EM (by decide) 17 (by decide) (by decide) rfl m_479 d_EM_init_536 hv ?_
  refine lv_iconst hx hb d_EM_init_539 kn_i_1 ?_
  refine lv_iconst hx hb d_EM_init_540 kn_i_1 ?_
  replace h := xb h
  obtain ⟨a12, rfl, h⟩ := h
  replace h := xb h
  obtain ⟨K11, hv, h⟩ := h
  refine xr_bast C X 1 (by decide) rfl rfl d_EM_init_541 hv (fun H locs X => ?_)
  refine lv_aload_n hx hb d_EM_init_542 rfl (lv_at hl 0 rfl) ?_
  replace h := xb h
  obtain ⟨v13, hv, h⟩ := h
  refine xr_gr C X xc_EM (by decide) 18 (by decide) (by decide) rfl m_480 d_EM_init_543 hv ?_
  refine lv_iconst hx hb d_EM_init_546 kn_i_1 ?_
  refine lv_bipush hx hb d_EM_init_547 kn_b_7 ?_
  replace h := xb h
  obtain ⟨a15, rfl, h⟩ := h
  replace h := xb h
  obtain ⟨K14, hv, h⟩ := h
  refine xr_iast C X 0 (by decide) rfl rfl d_EM_init_549 hv (fun H locs X => ?_)
  refine lv_aload_n hx hb d_EM_init_550 rfl (lv_at hl 0 rfl) ?_
  replace h := xb h
  obtain ⟨v16, hv, h⟩ := h
  refine xr_gr C X xc_EM (by decide) 19 (by decide) (by decide) rfl m_481 d_EM_init_551 hv ?_
  refine lv_iconst hx hb d_EM_init_554 kn_i_1 ?_
  refine lv_bipush hx hb d_EM_init_555 kn_b_10 ?_
  replace h := xb h
  obtain ⟨a18, rfl, h⟩ := h
  replace h := xb h
  obtain ⟨K17, hv, h⟩ := h
  refine xr_iast C X 0 (by decide) rfl rfl d_EM_init_557 hv (fun H locs X => ?_)
  exact kw_EM_init_558 (th := th) C hlk hr hin  X (lv_sub hl [0] rfl) h
set_option maxHeartbeats 4000000 in
set_option maxRecDepth 100000 in
theorem kw_EM_init_463 {th : Nat} (C : xx_C p m c b_EM_init 2 s args Rn_EM E) (hlk : meth.locks = false) (hr : meth.sig.returnType = none) (hin : meth.name = "<init>") (X : xx_S E K M s H locs) (hl : lv_has ls 2 [(0, .ref th)]) (h : kf_EM_init_463 K th = some K') : W p l e { frames := 1, cells := 55, slots := 7649, locals := 20 } s m args below meth c H locs 46 7271 (MQ below (xq_v E K' M) args s 55 7649 (xe_A E)) (F0 m 463 ls []) := by
  have hx := C.1.1
  have hb := C.1.2.1
  unfold kf_EM_init_463 at h
  refine lv_aload_n hx hb d_EM_init_463 rfl (lv_at hl 0 rfl) ?_
  refine lv_iconst hx hb d_EM_init_464 kn_i_3 ?_
  replace h := xpb h
  obtain ⟨q1, K2, hv, h⟩ := h
  refine xr_newa (ty := .int) (atype := .int) C X 0 (N := 3) rfl (by decide) rfl rfl (fun h => h) m_18 rfl (by decide +kernel) (by decide +kernel) (by decide +kernel) d_EM_init_465 (Nat.le_of_ble_eq_true rfl) (Nat.le_of_ble_eq_true rfl) hv (fun H X => ?_)
  replace h := xb h
  obtain ⟨K3, hv, h⟩ := h
  refine xr_pr (v := (some q1)) C X xc_EM (by decide) 46 (by decide) (by decide) rfl (Or.inr ⟨_, rfl⟩) rfl m_508 d_EM_init_467 hv (fun H locs X => ?_)
  refine lv_aload_n hx hb d_EM_init_470 rfl (lv_at hl 0 rfl) ?_
  refine lv_bipush hx hb d_EM_init_471 kn_b_25 ?_
  replace h := xpb h
  obtain ⟨q4, K5, hv, h⟩ := h
  refine xr_newa (ty := .int) (atype := .int) C X 0 (N := 25) rfl (by decide) rfl rfl (fun h => h) m_18 rfl (by decide +kernel) (by decide +kernel) (by decide +kernel) d_EM_init_473 (Nat.le_of_ble_eq_true rfl) (Nat.le_of_ble_eq_true rfl) hv (fun H X => ?_)
  replace h := xb h
  obtain ⟨K6, hv, h⟩ := h
  refine xr_pr (v := (some q4)) C X xc_EM (by decide) 48 (by decide) (by decide) rfl (Or.inr ⟨_, rfl⟩) rfl m_509 d_EM_init_475 hv (fun H locs X => ?_)
  refine lv_aload_n hx hb d_EM_init_478 rfl (lv_at hl 0 rfl) ?_
  refine lv_bipush hx hb d_EM_init_479 kn_b_25 ?_
  replace h := xpb h
  obtain ⟨q7, K8, hv, h⟩ := h
  refine xr_newa (ty := .int) (atype := .int) C X 0 (N := 25) rfl (by decide) rfl rfl (fun h => h) m_18 rfl (by decide +kernel) (by decide +kernel) (by decide +kernel) d_EM_init_481 (Nat.le_of_ble_eq_true rfl) (Nat.le_of_ble_eq_true rfl) hv (fun H X => ?_)
  replace h := xb h
  obtain ⟨K9, hv, h⟩ := h
  refine xr_pr (v := (some q7)) C X xc_EM (by decide) 49 (by decide) (by decide) rfl (Or.inr ⟨_, rfl⟩) rfl m_510 d_EM_init_483 hv (fun H locs X => ?_)
  refine lv_aload_n hx hb d_EM_init_486 rfl (lv_at hl 0 rfl) ?_
  refine lv_bipush hx hb d_EM_init_487 kn_b_25 ?_
  replace h := xpb h
  obtain ⟨q10, K11, hv, h⟩ := h
  refine xr_newa (ty := .int) (atype := .int) C X 0 (N := 25) rfl (by decide) rfl rfl (fun h => h) m_18 rfl (by decide +kernel) (by decide +kernel) (by decide +kernel) d_EM_init_489 (Nat.le_of_ble_eq_true rfl) (Nat.le_of_ble_eq_true rfl) hv (fun H X => ?_)
  replace h := xb h
  obtain ⟨K12, hv, h⟩ := h
  refine xr_pr (v := (some q10)) C X xc_EM (by decide) 50 (by decide) (by decide) rfl (Or.inr ⟨_, rfl⟩) rfl m_511 d_EM_init_491 hv (fun H locs X => ?_)
  refine lv_aload_n hx hb d_EM_init_494 rfl (lv_at hl 0 rfl) ?_
  refine lv_bipush hx hb d_EM_init_495 kn_b_25 ?_
  replace h := xpb h
  obtain ⟨q13, K14, hv, h⟩ := h
  refine xr_newa (ty := .int) (atype := .int) C X 0 (N := 25) rfl (by decide) rfl rfl (fun h => h) m_18 rfl (by decide +kernel) (by decide +kernel) (by decide +kernel) d_EM_init_497 (Nat.le_of_ble_eq_true rfl) (Nat.le_of_ble_eq_true rfl) hv (fun H X => ?_)
  replace h := xb h
  obtain ⟨K15, hv, h⟩ := h
  refine xr_pr (v := (some q13)) C X xc_EM (by decide) 51 (by decide) (by decide) rfl (Or.inr ⟨_, rfl⟩) rfl m_512 d_EM_init_499 hv (fun H locs X => ?_)
  refine lv_aload_n hx hb d_EM_init_502 rfl (lv_at hl 0 rfl) ?_
  refine lv_bipush hx hb d_EM_init_503 kn_b_25 ?_
  replace h := xpb h
  obtain ⟨q16, K17, hv, h⟩ := h
  refine xr_newa (ty := .int) (atype := .int) C X 0 (N := 25) rfl (by decide) rfl rfl (fun h => h) m_18 rfl (by decide +kernel) (by decide +kernel) (by decide +kernel) d_EM_init_505 (Nat.le_of_ble_eq_true rfl) (Nat.le_of_ble_eq_true rfl) hv (fun H X => ?_)
  replace h := xb h
  obtain ⟨K18, hv, h⟩ := h
  refine xr_pr (v := (some q16)) C X xc_EM (by decide) 52 (by decide) (by decide) rfl (Or.inr ⟨_, rfl⟩) rfl m_513 d_EM_init_507 hv (fun H locs X => ?_)
  exact kw_EM_init_510 (th := th) C hlk hr hin  X (lv_sub hl [0] rfl) h
set_option maxHeartbeats 4000000 in
set_option maxRecDepth 100000 in
theorem kw_EM_init_420 {th : Nat} (C : xx_C p m c b_EM_init 2 s args Rn_EM E) (hlk : meth.locks = false) (hr : meth.sig.returnType = none) (hin : meth.name = "<init>") (X : xx_S E K M s H locs) (hl : lv_has ls 2 [(0, .ref th)]) (h : kf_EM_init_420 K th = some K') : W p l e { frames := 1, cells := 55, slots := 7649, locals := 20 } s m args below meth c H locs 40 7232 (MQ below (xq_v E K' M) args s 55 7649 (xe_A E)) (F0 m 420 ls []) := by
  have hx := C.1.1
  have hb := C.1.2.1
  unfold kf_EM_init_420 at h
  refine lv_aload_n hx hb d_EM_init_420 rfl (lv_at hl 0 rfl) ?_
  refine lv_iconst hx hb d_EM_init_421 kn_i_3 ?_
  replace h := xpb h
  obtain ⟨q1, K2, hv, h⟩ := h
  refine xr_newa (ty := .int) (atype := .int) C X 0 (N := 3) rfl (by decide) rfl rfl (fun h => h) m_18 rfl (by decide +kernel) (by decide +kernel) (by decide +kernel) d_EM_init_422 (Nat.le_of_ble_eq_true rfl) (Nat.le_of_ble_eq_true rfl) hv (fun H X => ?_)
  replace h := xb h
  obtain ⟨K3, hv, h⟩ := h
  refine xr_pr (v := (some q1)) C X xc_EM (by decide) 40 (by decide) (by decide) rfl (Or.inr ⟨_, rfl⟩) rfl m_502 d_EM_init_424 hv (fun H locs X => ?_)
  refine lv_aload_n hx hb d_EM_init_427 rfl (lv_at hl 0 rfl) ?_
  refine lv_iconst hx hb d_EM_init_428 kn_i_3 ?_
  replace h := xpb h
  obtain ⟨q4, K5, hv, h⟩ := h
  refine xr_newa (ty := .int) (atype := .int) C X 0 (N := 3) rfl (by decide) rfl rfl (fun h => h) m_18 rfl (by decide +kernel) (by decide +kernel) (by decide +kernel) d_EM_init_429 (Nat.le_of_ble_eq_true rfl) (Nat.le_of_ble_eq_true rfl) hv (fun H X => ?_)
  replace h := xb h
  obtain ⟨K6, hv, h⟩ := h
  refine xr_pr (v := (some q4)) C X xc_EM (by decide) 41 (by decide) (by decide) rfl (Or.inr ⟨_, rfl⟩) rfl m_503 d_EM_init_431 hv (fun H locs X => ?_)
  refine lv_aload_n hx hb d_EM_init_434 rfl (lv_at hl 0 rfl) ?_
  refine lv_iconst hx hb d_EM_init_435 kn_i_3 ?_
  replace h := xpb h
  obtain ⟨q7, K8, hv, h⟩ := h
  refine xr_newa (ty := .int) (atype := .int) C X 0 (N := 3) rfl (by decide) rfl rfl (fun h => h) m_18 rfl (by decide +kernel) (by decide +kernel) (by decide +kernel) d_EM_init_436 (Nat.le_of_ble_eq_true rfl) (Nat.le_of_ble_eq_true rfl) hv (fun H X => ?_)
  replace h := xb h
  obtain ⟨K9, hv, h⟩ := h
  refine xr_pr (v := (some q7)) C X xc_EM (by decide) 42 (by decide) (by decide) rfl (Or.inr ⟨_, rfl⟩) rfl m_504 d_EM_init_438 hv (fun H locs X => ?_)
  refine lv_aload_n hx hb d_EM_init_441 rfl (lv_at hl 0 rfl) ?_
  refine lv_iconst hx hb d_EM_init_442 kn_i_3 ?_
  replace h := xpb h
  obtain ⟨q10, K11, hv, h⟩ := h
  refine xr_newa (ty := .int) (atype := .int) C X 0 (N := 3) rfl (by decide) rfl rfl (fun h => h) m_18 rfl (by decide +kernel) (by decide +kernel) (by decide +kernel) d_EM_init_443 (Nat.le_of_ble_eq_true rfl) (Nat.le_of_ble_eq_true rfl) hv (fun H X => ?_)
  replace h := xb h
  obtain ⟨K12, hv, h⟩ := h
  refine xr_pr (v := (some q10)) C X xc_EM (by decide) 43 (by decide) (by decide) rfl (Or.inr ⟨_, rfl⟩) rfl m_505 d_EM_init_445 hv (fun H locs X => ?_)
  refine lv_aload_n hx hb d_EM_init_448 rfl (lv_at hl 0 rfl) ?_
  refine lv_iconst hx hb d_EM_init_449 kn_i_3 ?_
  replace h := xpb h
  obtain ⟨q13, K14, hv, h⟩ := h
  refine xr_newa (ty := .int) (atype := .int) C X 0 (N := 3) rfl (by decide) rfl rfl (fun h => h) m_18 rfl (by decide +kernel) (by decide +kernel) (by decide +kernel) d_EM_init_450 (Nat.le_of_ble_eq_true rfl) (Nat.le_of_ble_eq_true rfl) hv (fun H X => ?_)
  replace h := xb h
  obtain ⟨K15, hv, h⟩ := h
  refine xr_pr (v := (some q13)) C X xc_EM (by decide) 44 (by decide) (by decide) rfl (Or.inr ⟨_, rfl⟩) rfl m_506 d_EM_init_452 hv (fun H locs X => ?_)
  refine lv_aload_n hx hb d_EM_init_455 rfl (lv_at hl 0 rfl) ?_
  refine lv_bipush hx hb d_EM_init_456 kn_b_24 ?_
  replace h := xpb h
  obtain ⟨q16, K17, hv, h⟩ := h
  refine xr_newa (ty := .int) (atype := .int) C X 0 (N := 24) rfl (by decide) rfl rfl (fun h => h) m_18 rfl (by decide +kernel) (by decide +kernel) (by decide +kernel) d_EM_init_458 (Nat.le_of_ble_eq_true rfl) (Nat.le_of_ble_eq_true rfl) hv (fun H X => ?_)
  replace h := xb h
  obtain ⟨K18, hv, h⟩ := h
  refine xr_pr (v := (some q16)) C X xc_EM (by decide) 45 (by decide) (by decide) rfl (Or.inr ⟨_, rfl⟩) rfl m_507 d_EM_init_460 hv (fun H locs X => ?_)
  exact kw_EM_init_463 (th := th) C hlk hr hin  X (lv_sub hl [0] rfl) h
set_option maxHeartbeats 4000000 in
set_option maxRecDepth 100000 in
theorem kw_EM_init_386 {th : Nat} (C : xx_C p m c b_EM_init 2 s args Rn_EM E) (hlk : meth.locks = false) (hr : meth.sig.returnType = none) (hin : meth.name = "<init>") (X : xx_S E K M s H locs) (hl : lv_has ls 2 [(0, .ref th)]) (h : kf_EM_init_386 K th = some K') : W p l e { frames := 1, cells := 55, slots := 7649, locals := 20 } s m args below meth c H locs 37 7146 (MQ below (xq_v E K' M) args s 55 7649 (xe_A E)) (F0 m 386 ls []) := by
  have hx := C.1.1
  have hb := C.1.2.1
  unfold kf_EM_init_386 at h
  refine lv_aload_n hx hb d_EM_init_386 rfl (lv_at hl 0 rfl) ?_
  refine lv_bipush hx hb d_EM_init_387 kn_b_80 ?_
  replace h := xpb h
  obtain ⟨q1, K2, hv, h⟩ := h
  refine xr_newa (ty := .int) (atype := .int) C X 0 (N := 80) rfl (by decide) rfl rfl (fun h => h) m_18 rfl (by decide +kernel) (by decide +kernel) (by decide +kernel) d_EM_init_389 (Nat.le_of_ble_eq_true rfl) (Nat.le_of_ble_eq_true rfl) hv (fun H X => ?_)
  replace h := xb h
  obtain ⟨K3, hv, h⟩ := h
  refine xr_pr (v := (some q1)) C X xc_EM (by decide) 37 (by decide) (by decide) rfl (Or.inr ⟨_, rfl⟩) rfl m_499 d_EM_init_391 hv (fun H locs X => ?_)
  refine lv_aload_n hx hb d_EM_init_394 rfl (lv_at hl 0 rfl) ?_
  refine lv_iconst hx hb d_EM_init_395 kn_i_3 ?_
  replace h := xpb h
  obtain ⟨q4, K5, hv, h⟩ := h
  refine xr_newa (ty := .int) (atype := .int) C X 0 (N := 3) rfl (by decide) rfl rfl (fun h => h) m_18 rfl (by decide +kernel) (by decide +kernel) (by decide +kernel) d_EM_init_396 (Nat.le_of_ble_eq_true rfl) (Nat.le_of_ble_eq_true rfl) hv (fun H X => ?_)
  refine lv_dup hx hb d_EM_init_398 rfl ?_
  refine lv_iconst hx hb d_EM_init_399 kn_i_0 ?_
  refine lv_iconst hx hb d_EM_init_400 kn_i_1 ?_
  replace h := xb h
  obtain ⟨K6, hv, h⟩ := h
  refine xr_iast C X 0 (by decide) rfl rfl d_EM_init_401 hv (fun H locs X => ?_)
  refine lv_dup hx hb d_EM_init_402 rfl ?_
  refine lv_iconst hx hb d_EM_init_403 kn_i_1 ?_
  refine lv_iconst hx hb d_EM_init_404 kn_i_1 ?_
  replace h := xb h
  obtain ⟨K7, hv, h⟩ := h
  refine xr_iast C X 0 (by decide) rfl rfl d_EM_init_405 hv (fun H locs X => ?_)
  refine lv_dup hx hb d_EM_init_406 rfl ?_
  refine lv_iconst hx hb d_EM_init_407 kn_i_2 ?_
  refine lv_iconst hx hb d_EM_init_408 kn_i_1 ?_
  replace h := xb h
  obtain ⟨K8, hv, h⟩ := h
  refine xr_iast C X 0 (by decide) rfl rfl d_EM_init_409 hv (fun H locs X => ?_)
  replace h := xb h
  obtain ⟨K9, hv, h⟩ := h
  refine xr_pr (v := (some q4)) C X xc_EM (by decide) 38 (by decide) (by decide) rfl (Or.inr ⟨_, rfl⟩) rfl m_500 d_EM_init_410 hv (fun H locs X => ?_)
  refine lv_aload_n hx hb d_EM_init_413 rfl (lv_at hl 0 rfl) ?_
  refine lv_iconst hx hb d_EM_init_414 kn_i_3 ?_
  replace h := xpb h
  obtain ⟨q10, K11, hv, h⟩ := h
  refine xr_newa (ty := .int) (atype := .int) C X 0 (N := 3) rfl (by decide) rfl rfl (fun h => h) m_18 rfl (by decide +kernel) (by decide +kernel) (by decide +kernel) d_EM_init_415 (Nat.le_of_ble_eq_true rfl) (Nat.le_of_ble_eq_true rfl) hv (fun H X => ?_)
  replace h := xb h
  obtain ⟨K12, hv, h⟩ := h
  refine xr_pr (v := (some q10)) C X xc_EM (by decide) 39 (by decide) (by decide) rfl (Or.inr ⟨_, rfl⟩) rfl m_501 d_EM_init_417 hv (fun H locs X => ?_)
  exact kw_EM_init_420 (th := th) C hlk hr hin  X (lv_sub hl [0] rfl) h
set_option maxHeartbeats 4000000 in
set_option maxRecDepth 100000 in
theorem kw_EM_init_337 {th : Nat} (C : xx_C p m c b_EM_init 2 s args Rn_EM E) (hlk : meth.locks = false) (hr : meth.sig.returnType = none) (hin : meth.name = "<init>") (X : xx_S E K M s H locs) (hl : lv_has ls 2 [(0, .ref th)]) (h : kf_EM_init_337 K th = some K') : W p l e { frames := 1, cells := 55, slots := 7649, locals := 20 } s m args below meth c H locs 31 6106 (MQ below (xq_v E K' M) args s 55 7649 (xe_A E)) (F0 m 337 ls []) := by
  have hx := C.1.1
  have hb := C.1.2.1
  unfold kf_EM_init_337 at h
  refine lv_aload_n hx hb d_EM_init_337 rfl (lv_at hl 0 rfl) ?_
  refine lv_bipush hx hb d_EM_init_338 kn_b_80 ?_
  replace h := xpb h
  obtain ⟨q1, K2, hv, h⟩ := h
  refine xr_newa (ty := .int) (atype := .int) C X 0 (N := 80) rfl (by decide) rfl rfl (fun h => h) m_18 rfl (by decide +kernel) (by decide +kernel) (by decide +kernel) d_EM_init_340 (Nat.le_of_ble_eq_true rfl) (Nat.le_of_ble_eq_true rfl) hv (fun H X => ?_)
  replace h := xb h
  obtain ⟨K3, hv, h⟩ := h
  refine xr_pr (v := (some q1)) C X xc_EM (by decide) 31 (by decide) (by decide) rfl (Or.inr ⟨_, rfl⟩) rfl m_493 d_EM_init_342 hv (fun H locs X => ?_)
  refine lv_aload_n hx hb d_EM_init_345 rfl (lv_at hl 0 rfl) ?_
  refine lv_bipush hx hb d_EM_init_346 kn_b_80 ?_
  replace h := xpb h
  obtain ⟨q4, K5, hv, h⟩ := h
  refine xr_newa (ty := .int) (atype := .int) C X 0 (N := 80) rfl (by decide) rfl rfl (fun h => h) m_18 rfl (by decide +kernel) (by decide +kernel) (by decide +kernel) d_EM_init_348 (Nat.le_of_ble_eq_true rfl) (Nat.le_of_ble_eq_true rfl) hv (fun H X => ?_)
  replace h := xb h
  obtain ⟨K6, hv, h⟩ := h
  refine xr_pr (v := (some q4)) C X xc_EM (by decide) 32 (by decide) (by decide) rfl (Or.inr ⟨_, rfl⟩) rfl m_494 d_EM_init_350 hv (fun H locs X => ?_)
  refine lv_aload_n hx hb d_EM_init_353 rfl (lv_at hl 0 rfl) ?_
  refine lv_bipush hx hb d_EM_init_354 kn_b_80 ?_
  replace h := xpb h
  obtain ⟨q7, K8, hv, h⟩ := h
  refine xr_newa (ty := .int) (atype := .int) C X 0 (N := 80) rfl (by decide) rfl rfl (fun h => h) m_18 rfl (by decide +kernel) (by decide +kernel) (by decide +kernel) d_EM_init_356 (Nat.le_of_ble_eq_true rfl) (Nat.le_of_ble_eq_true rfl) hv (fun H X => ?_)
  replace h := xb h
  obtain ⟨K9, hv, h⟩ := h
  refine xr_pr (v := (some q7)) C X xc_EM (by decide) 33 (by decide) (by decide) rfl (Or.inr ⟨_, rfl⟩) rfl m_495 d_EM_init_358 hv (fun H locs X => ?_)
  refine lv_aload_n hx hb d_EM_init_361 rfl (lv_at hl 0 rfl) ?_
  refine lv_sipush hx hb d_EM_init_362 kn_s_640 ?_
  replace h := xpb h
  obtain ⟨q10, K11, hv, h⟩ := h
  refine xr_newa (ty := .int) (atype := .int) C X 0 (N := 640) rfl (by decide) rfl rfl (fun h => h) m_18 rfl (by decide +kernel) (by decide +kernel) (by decide +kernel) d_EM_init_365 (Nat.le_of_ble_eq_true rfl) (Nat.le_of_ble_eq_true rfl) hv (fun H X => ?_)
  replace h := xb h
  obtain ⟨K12, hv, h⟩ := h
  refine xr_pr (v := (some q10)) C X xc_EM (by decide) 34 (by decide) (by decide) rfl (Or.inr ⟨_, rfl⟩) rfl m_496 d_EM_init_367 hv (fun H locs X => ?_)
  refine lv_aload_n hx hb d_EM_init_370 rfl (lv_at hl 0 rfl) ?_
  refine lv_bipush hx hb d_EM_init_371 kn_b_80 ?_
  replace h := xpb h
  obtain ⟨q13, K14, hv, h⟩ := h
  refine xr_newa (ty := .int) (atype := .int) C X 0 (N := 80) rfl (by decide) rfl rfl (fun h => h) m_18 rfl (by decide +kernel) (by decide +kernel) (by decide +kernel) d_EM_init_373 (Nat.le_of_ble_eq_true rfl) (Nat.le_of_ble_eq_true rfl) hv (fun H X => ?_)
  replace h := xb h
  obtain ⟨K15, hv, h⟩ := h
  refine xr_pr (v := (some q13)) C X xc_EM (by decide) 35 (by decide) (by decide) rfl (Or.inr ⟨_, rfl⟩) rfl m_497 d_EM_init_375 hv (fun H locs X => ?_)
  refine lv_aload_n hx hb d_EM_init_378 rfl (lv_at hl 0 rfl) ?_
  refine lv_bipush hx hb d_EM_init_379 kn_b_80 ?_
  replace h := xpb h
  obtain ⟨q16, K17, hv, h⟩ := h
  refine xr_newa (ty := .int) (atype := .int) C X 0 (N := 80) rfl (by decide) rfl rfl (fun h => h) m_18 rfl (by decide +kernel) (by decide +kernel) (by decide +kernel) d_EM_init_381 (Nat.le_of_ble_eq_true rfl) (Nat.le_of_ble_eq_true rfl) hv (fun H X => ?_)
  replace h := xb h
  obtain ⟨K18, hv, h⟩ := h
  refine xr_pr (v := (some q16)) C X xc_EM (by decide) 36 (by decide) (by decide) rfl (Or.inr ⟨_, rfl⟩) rfl m_498 d_EM_init_383 hv (fun H locs X => ?_)
  exact kw_EM_init_386 (th := th) C hlk hr hin  X (lv_sub hl [0] rfl) h
set_option maxHeartbeats 4000000 in
set_option maxRecDepth 100000 in
theorem kw_EM_init_289 {th : Nat} (C : xx_C p m c b_EM_init 2 s args Rn_EM E) (hlk : meth.locks = false) (hr : meth.sig.returnType = none) (hin : meth.name = "<init>") (X : xx_S E K M s H locs) (hl : lv_has ls 2 [(0, .ref th)]) (h : kf_EM_init_289 K th = some K') : W p l e { frames := 1, cells := 55, slots := 7649, locals := 20 } s m args below meth c H locs 25 5766 (MQ below (xq_v E K' M) args s 55 7649 (xe_A E)) (F0 m 289 ls []) := by
  have hx := C.1.1
  have hb := C.1.2.1
  unfold kf_EM_init_289 at h
  refine lv_aload_n hx hb d_EM_init_289 rfl (lv_at hl 0 rfl) ?_
  refine lv_bipush hx hb d_EM_init_290 kn_b_10 ?_
  replace h := xpb h
  obtain ⟨q1, K2, hv, h⟩ := h
  refine xr_newa (ty := .int) (atype := .int) C X 0 (N := 10) rfl (by decide) rfl rfl (fun h => h) m_18 rfl (by decide +kernel) (by decide +kernel) (by decide +kernel) d_EM_init_292 (Nat.le_of_ble_eq_true rfl) (Nat.le_of_ble_eq_true rfl) hv (fun H X => ?_)
  replace h := xb h
  obtain ⟨K3, hv, h⟩ := h
  refine xr_pr (v := (some q1)) C X xc_EM (by decide) 25 (by decide) (by decide) rfl (Or.inr ⟨_, rfl⟩) rfl m_487 d_EM_init_294 hv (fun H locs X => ?_)
  refine lv_aload_n hx hb d_EM_init_297 rfl (lv_at hl 0 rfl) ?_
  refine lv_bipush hx hb d_EM_init_298 kn_b_80 ?_
  replace h := xpb h
  obtain ⟨q4, K5, hv, h⟩ := h
  refine xr_newa (ty := .int) (atype := .int) C X 0 (N := 80) rfl (by decide) rfl rfl (fun h => h) m_18 rfl (by decide +kernel) (by decide +kernel) (by decide +kernel) d_EM_init_300 (Nat.le_of_ble_eq_true rfl) (Nat.le_of_ble_eq_true rfl) hv (fun H X => ?_)
  replace h := xb h
  obtain ⟨K6, hv, h⟩ := h
  refine xr_pr (v := (some q4)) C X xc_EM (by decide) 26 (by decide) (by decide) rfl (Or.inr ⟨_, rfl⟩) rfl m_488 d_EM_init_302 hv (fun H locs X => ?_)
  refine lv_aload_n hx hb d_EM_init_305 rfl (lv_at hl 0 rfl) ?_
  refine lv_bipush hx hb d_EM_init_306 kn_b_80 ?_
  replace h := xpb h
  obtain ⟨q7, K8, hv, h⟩ := h
  refine xr_newa (ty := .int) (atype := .int) C X 0 (N := 80) rfl (by decide) rfl rfl (fun h => h) m_18 rfl (by decide +kernel) (by decide +kernel) (by decide +kernel) d_EM_init_308 (Nat.le_of_ble_eq_true rfl) (Nat.le_of_ble_eq_true rfl) hv (fun H X => ?_)
  replace h := xb h
  obtain ⟨K9, hv, h⟩ := h
  refine xr_pr (v := (some q7)) C X xc_EM (by decide) 27 (by decide) (by decide) rfl (Or.inr ⟨_, rfl⟩) rfl m_489 d_EM_init_310 hv (fun H locs X => ?_)
  refine lv_aload_n hx hb d_EM_init_313 rfl (lv_at hl 0 rfl) ?_
  refine lv_bipush hx hb d_EM_init_314 kn_b_80 ?_
  replace h := xpb h
  obtain ⟨q10, K11, hv, h⟩ := h
  refine xr_newa (ty := .int) (atype := .int) C X 0 (N := 80) rfl (by decide) rfl rfl (fun h => h) m_18 rfl (by decide +kernel) (by decide +kernel) (by decide +kernel) d_EM_init_316 (Nat.le_of_ble_eq_true rfl) (Nat.le_of_ble_eq_true rfl) hv (fun H X => ?_)
  replace h := xb h
  obtain ⟨K12, hv, h⟩ := h
  refine xr_pr (v := (some q10)) C X xc_EM (by decide) 28 (by decide) (by decide) rfl (Or.inr ⟨_, rfl⟩) rfl m_490 d_EM_init_318 hv (fun H locs X => ?_)
  refine lv_aload_n hx hb d_EM_init_321 rfl (lv_at hl 0 rfl) ?_
  refine lv_bipush hx hb d_EM_init_322 kn_b_80 ?_
  replace h := xpb h
  obtain ⟨q13, K14, hv, h⟩ := h
  refine xr_newa (ty := .int) (atype := .int) C X 0 (N := 80) rfl (by decide) rfl rfl (fun h => h) m_18 rfl (by decide +kernel) (by decide +kernel) (by decide +kernel) d_EM_init_324 (Nat.le_of_ble_eq_true rfl) (Nat.le_of_ble_eq_true rfl) hv (fun H X => ?_)
  replace h := xb h
  obtain ⟨K15, hv, h⟩ := h
  refine xr_pr (v := (some q13)) C X xc_EM (by decide) 29 (by decide) (by decide) rfl (Or.inr ⟨_, rfl⟩) rfl m_491 d_EM_init_326 hv (fun H locs X => ?_)
  refine lv_aload_n hx hb d_EM_init_329 rfl (lv_at hl 0 rfl) ?_
  refine lv_bipush hx hb d_EM_init_330 kn_b_10 ?_
  replace h := xpb h
  obtain ⟨q16, K17, hv, h⟩ := h
  refine xr_newa (ty := .int) (atype := .int) C X 0 (N := 10) rfl (by decide) rfl rfl (fun h => h) m_18 rfl (by decide +kernel) (by decide +kernel) (by decide +kernel) d_EM_init_332 (Nat.le_of_ble_eq_true rfl) (Nat.le_of_ble_eq_true rfl) hv (fun H X => ?_)
  replace h := xb h
  obtain ⟨K18, hv, h⟩ := h
  refine xr_pr (v := (some q16)) C X xc_EM (by decide) 30 (by decide) (by decide) rfl (Or.inr ⟨_, rfl⟩) rfl m_492 d_EM_init_334 hv (fun H locs X => ?_)
  exact kw_EM_init_337 (th := th) C hlk hr hin  X (lv_sub hl [0] rfl) h
set_option maxHeartbeats 4000000 in
set_option maxRecDepth 100000 in
theorem kw_EM_init_241 {th : Nat} (C : xx_C p m c b_EM_init 2 s args Rn_EM E) (hlk : meth.locks = false) (hr : meth.sig.returnType = none) (hin : meth.name = "<init>") (X : xx_S E K M s H locs) (hl : lv_has ls 2 [(0, .ref th)]) (h : kf_EM_init_241 K th = some K') : W p l e { frames := 1, cells := 55, slots := 7649, locals := 20 } s m args below meth c H locs 19 5636 (MQ below (xq_v E K' M) args s 55 7649 (xe_A E)) (F0 m 241 ls []) := by
  have hx := C.1.1
  have hb := C.1.2.1
  unfold kf_EM_init_241 at h
  refine lv_aload_n hx hb d_EM_init_241 rfl (lv_at hl 0 rfl) ?_
  refine lv_bipush hx hb d_EM_init_242 kn_b_10 ?_
  replace h := xpb h
  obtain ⟨q1, K2, hv, h⟩ := h
  refine xr_newa (ty := .int) (atype := .int) C X 0 (N := 10) rfl (by decide) rfl rfl (fun h => h) m_18 rfl (by decide +kernel) (by decide +kernel) (by decide +kernel) d_EM_init_244 (Nat.le_of_ble_eq_true rfl) (Nat.le_of_ble_eq_true rfl) hv (fun H X => ?_)
  replace h := xb h
  obtain ⟨K3, hv, h⟩ := h
  refine xr_pr (v := (some q1)) C X xc_EM (by decide) 19 (by decide) (by decide) rfl (Or.inr ⟨_, rfl⟩) rfl m_481 d_EM_init_246 hv (fun H locs X => ?_)
  refine lv_aload_n hx hb d_EM_init_249 rfl (lv_at hl 0 rfl) ?_
  refine lv_bipush hx hb d_EM_init_250 kn_b_10 ?_
  replace h := xpb h
  obtain ⟨q4, K5, hv, h⟩ := h
  refine xr_newa (ty := .int) (atype := .int) C X 0 (N := 10) rfl (by decide) rfl rfl (fun h => h) m_18 rfl (by decide +kernel) (by decide +kernel) (by decide +kernel) d_EM_init_252 (Nat.le_of_ble_eq_true rfl) (Nat.le_of_ble_eq_true rfl) hv (fun H X => ?_)
  replace h := xb h
  obtain ⟨K6, hv, h⟩ := h
  refine xr_pr (v := (some q4)) C X xc_EM (by decide) 20 (by decide) (by decide) rfl (Or.inr ⟨_, rfl⟩) rfl m_482 d_EM_init_254 hv (fun H locs X => ?_)
  refine lv_aload_n hx hb d_EM_init_257 rfl (lv_at hl 0 rfl) ?_
  refine lv_bipush hx hb d_EM_init_258 kn_b_10 ?_
  replace h := xpb h
  obtain ⟨q7, K8, hv, h⟩ := h
  refine xr_newa (ty := .int) (atype := .int) C X 0 (N := 10) rfl (by decide) rfl rfl (fun h => h) m_18 rfl (by decide +kernel) (by decide +kernel) (by decide +kernel) d_EM_init_260 (Nat.le_of_ble_eq_true rfl) (Nat.le_of_ble_eq_true rfl) hv (fun H X => ?_)
  replace h := xb h
  obtain ⟨K9, hv, h⟩ := h
  refine xr_pr (v := (some q7)) C X xc_EM (by decide) 21 (by decide) (by decide) rfl (Or.inr ⟨_, rfl⟩) rfl m_483 d_EM_init_262 hv (fun H locs X => ?_)
  refine lv_aload_n hx hb d_EM_init_265 rfl (lv_at hl 0 rfl) ?_
  refine lv_bipush hx hb d_EM_init_266 kn_b_10 ?_
  replace h := xpb h
  obtain ⟨q10, K11, hv, h⟩ := h
  refine xr_newa (ty := .int) (atype := .int) C X 0 (N := 10) rfl (by decide) rfl rfl (fun h => h) m_18 rfl (by decide +kernel) (by decide +kernel) (by decide +kernel) d_EM_init_268 (Nat.le_of_ble_eq_true rfl) (Nat.le_of_ble_eq_true rfl) hv (fun H X => ?_)
  replace h := xb h
  obtain ⟨K12, hv, h⟩ := h
  refine xr_pr (v := (some q10)) C X xc_EM (by decide) 22 (by decide) (by decide) rfl (Or.inr ⟨_, rfl⟩) rfl m_484 d_EM_init_270 hv (fun H locs X => ?_)
  refine lv_aload_n hx hb d_EM_init_273 rfl (lv_at hl 0 rfl) ?_
  refine lv_bipush hx hb d_EM_init_274 kn_b_80 ?_
  replace h := xpb h
  obtain ⟨q13, K14, hv, h⟩ := h
  refine xr_newa (ty := .int) (atype := .int) C X 0 (N := 80) rfl (by decide) rfl rfl (fun h => h) m_18 rfl (by decide +kernel) (by decide +kernel) (by decide +kernel) d_EM_init_276 (Nat.le_of_ble_eq_true rfl) (Nat.le_of_ble_eq_true rfl) hv (fun H X => ?_)
  replace h := xb h
  obtain ⟨K15, hv, h⟩ := h
  refine xr_pr (v := (some q13)) C X xc_EM (by decide) 23 (by decide) (by decide) rfl (Or.inr ⟨_, rfl⟩) rfl m_485 d_EM_init_278 hv (fun H locs X => ?_)
  refine lv_aload_n hx hb d_EM_init_281 rfl (lv_at hl 0 rfl) ?_
  refine lv_bipush hx hb d_EM_init_282 kn_b_10 ?_
  replace h := xpb h
  obtain ⟨q16, K17, hv, h⟩ := h
  refine xr_newa (ty := .int) (atype := .int) C X 0 (N := 10) rfl (by decide) rfl rfl (fun h => h) m_18 rfl (by decide +kernel) (by decide +kernel) (by decide +kernel) d_EM_init_284 (Nat.le_of_ble_eq_true rfl) (Nat.le_of_ble_eq_true rfl) hv (fun H X => ?_)
  replace h := xb h
  obtain ⟨K18, hv, h⟩ := h
  refine xr_pr (v := (some q16)) C X xc_EM (by decide) 24 (by decide) (by decide) rfl (Or.inr ⟨_, rfl⟩) rfl m_486 d_EM_init_286 hv (fun H locs X => ?_)
  exact kw_EM_init_289 (th := th) C hlk hr hin  X (lv_sub hl [0] rfl) h
set_option maxHeartbeats 4000000 in
set_option maxRecDepth 100000 in
theorem kw_EM_init_191 {th : Nat} (C : xx_C p m c b_EM_init 2 s args Rn_EM E) (hlk : meth.locks = false) (hr : meth.sig.returnType = none) (hin : meth.name = "<init>") (X : xx_S E K M s H locs) (hl : lv_has ls 2 [(0, .ref th)]) (h : kf_EM_init_191 K th = some K') : W p l e { frames := 1, cells := 55, slots := 7649, locals := 20 } s m args below meth c H locs 13 3054 (MQ below (xq_v E K' M) args s 55 7649 (xe_A E)) (F0 m 191 ls []) := by
  have hx := C.1.1
  have hb := C.1.2.1
  unfold kf_EM_init_191 at h
  refine lv_aload_n hx hb d_EM_init_191 rfl (lv_at hl 0 rfl) ?_
  refine lv_iconst hx hb d_EM_init_192 kn_i_2 ?_
  replace h := xpb h
  obtain ⟨q1, K2, hv, h⟩ := h
  refine xr_newa (ty := .int) (atype := .int) C X 0 (N := 2) rfl (by decide) rfl rfl (fun h => h) m_18 rfl (by decide +kernel) (by decide +kernel) (by decide +kernel) d_EM_init_193 (Nat.le_of_ble_eq_true rfl) (Nat.le_of_ble_eq_true rfl) hv (fun H X => ?_)
  replace h := xb h
  obtain ⟨K3, hv, h⟩ := h
  refine xr_pr (v := (some q1)) C X xc_EM (by decide) 13 (by decide) (by decide) rfl (Or.inr ⟨_, rfl⟩) rfl m_475 d_EM_init_195 hv (fun H locs X => ?_)
  refine lv_aload_n hx hb d_EM_init_198 rfl (lv_at hl 0 rfl) ?_
  refine lv_sipush hx hb d_EM_init_199 kn_s_256 ?_
  replace h := xpb h
  obtain ⟨q4, K5, hv, h⟩ := h
  refine xr_newa (ty := .int) (atype := .int) C X 0 (N := 256) rfl (by decide) rfl rfl (fun h => h) m_18 rfl (by decide +kernel) (by decide +kernel) (by decide +kernel) d_EM_init_202 (Nat.le_of_ble_eq_true rfl) (Nat.le_of_ble_eq_true rfl) hv (fun H X => ?_)
  replace h := xb h
  obtain ⟨K6, hv, h⟩ := h
  refine xr_pr (v := (some q4)) C X xc_EM (by decide) 14 (by decide) (by decide) rfl (Or.inr ⟨_, rfl⟩) rfl m_476 d_EM_init_204 hv (fun H locs X => ?_)
  refine lv_aload_n hx hb d_EM_init_207 rfl (lv_at hl 0 rfl) ?_
  refine lv_sipush hx hb d_EM_init_208 kn_s_256 ?_
  replace h := xpb h
  obtain ⟨q7, K8, hv, h⟩ := h
  refine xr_newa (ty := .int) (atype := .int) C X 0 (N := 256) rfl (by decide) rfl rfl (fun h => h) m_18 rfl (by decide +kernel) (by decide +kernel) (by decide +kernel) d_EM_init_211 (Nat.le_of_ble_eq_true rfl) (Nat.le_of_ble_eq_true rfl) hv (fun H X => ?_)
  replace h := xb h
  obtain ⟨K9, hv, h⟩ := h
  refine xr_pr (v := (some q7)) C X xc_EM (by decide) 15 (by decide) (by decide) rfl (Or.inr ⟨_, rfl⟩) rfl m_477 d_EM_init_213 hv (fun H locs X => ?_)
  refine lv_aload_n hx hb d_EM_init_216 rfl (lv_at hl 0 rfl) ?_
  refine lv_sipush hx hb d_EM_init_217 kn_s_2048 ?_
  replace h := xpb h
  obtain ⟨q10, K11, hv, h⟩ := h
  refine xr_newa (ty := .int) (atype := .int) C X 0 (N := 2048) rfl (by decide) rfl rfl (fun h => h) m_18 rfl (by decide +kernel) (by decide +kernel) (by decide +kernel) d_EM_init_220 (Nat.le_of_ble_eq_true rfl) (Nat.le_of_ble_eq_true rfl) hv (fun H X => ?_)
  replace h := xb h
  obtain ⟨K12, hv, h⟩ := h
  refine xr_pr (v := (some q10)) C X xc_EM (by decide) 16 (by decide) (by decide) rfl (Or.inr ⟨_, rfl⟩) rfl m_478 d_EM_init_222 hv (fun H locs X => ?_)
  refine lv_aload_n hx hb d_EM_init_225 rfl (lv_at hl 0 rfl) ?_
  refine lv_bipush hx hb d_EM_init_226 kn_b_10 ?_
  replace h := xpb h
  obtain ⟨q13, K14, hv, h⟩ := h
  refine xr_newa (ty := .boolean) (atype := .boolean) C X 1 (N := 10) rfl (by decide) rfl rfl (fun h => h) m_462 rfl (by decide +kernel) (by decide +kernel) (by decide +kernel) d_EM_init_228 (Nat.le_of_ble_eq_true rfl) (Nat.le_of_ble_eq_true rfl) hv (fun H X => ?_)
  replace h := xb h
  obtain ⟨K15, hv, h⟩ := h
  refine xr_pr (v := (some q13)) C X xc_EM (by decide) 17 (by decide) (by decide) rfl (Or.inr ⟨_, rfl⟩) rfl m_479 d_EM_init_230 hv (fun H locs X => ?_)
  refine lv_aload_n hx hb d_EM_init_233 rfl (lv_at hl 0 rfl) ?_
  refine lv_bipush hx hb d_EM_init_234 kn_b_10 ?_
  replace h := xpb h
  obtain ⟨q16, K17, hv, h⟩ := h
  refine xr_newa (ty := .int) (atype := .int) C X 0 (N := 10) rfl (by decide) rfl rfl (fun h => h) m_18 rfl (by decide +kernel) (by decide +kernel) (by decide +kernel) d_EM_init_236 (Nat.le_of_ble_eq_true rfl) (Nat.le_of_ble_eq_true rfl) hv (fun H X => ?_)
  replace h := xb h
  obtain ⟨K18, hv, h⟩ := h
  refine xr_pr (v := (some q16)) C X xc_EM (by decide) 18 (by decide) (by decide) rfl (Or.inr ⟨_, rfl⟩) rfl m_480 d_EM_init_238 hv (fun H locs X => ?_)
  exact kw_EM_init_241 (th := th) C hlk hr hin  X (lv_sub hl [0] rfl) h
set_option maxHeartbeats 4000000 in
set_option maxRecDepth 100000 in
theorem kw_EM_init_159 {th : Nat} (C : xx_C p m c b_EM_init 2 s args Rn_EM E) (hlk : meth.locks = false) (hr : meth.sig.returnType = none) (hin : meth.name = "<init>") (X : xx_S E K M s H locs) (hl : lv_has ls 2 [(0, .ref th)]) (h : kf_EM_init_159 K th = some K') : W p l e { frames := 1, cells := 55, slots := 7649, locals := 20 } s m args below meth c H locs 11 3050 (MQ below (xq_v E K' M) args s 55 7649 (xe_A E)) (F0 m 159 ls []) := by
  have hx := C.1.1
  have hb := C.1.2.1
  unfold kf_EM_init_159 at h
  refine lv_aload_n hx hb d_EM_init_159 rfl (lv_at hl 0 rfl) ?_
  refine lv_iconst hx hb d_EM_init_160 kn_i_2 ?_
  replace h := xpb h
  obtain ⟨q1, K2, hv, h⟩ := h
  refine xr_newa (ty := .boolean) (atype := .boolean) C X 1 (N := 2) rfl (by decide) rfl rfl (fun h => h) m_462 rfl (by decide +kernel) (by decide +kernel) (by decide +kernel) d_EM_init_161 (Nat.le_of_ble_eq_true rfl) (Nat.le_of_ble_eq_true rfl) hv (fun H X => ?_)
  refine lv_dup hx hb d_EM_init_163 rfl ?_
  refine lv_iconst hx hb d_EM_init_164 kn_i_0 ?_
  refine lv_iconst hx hb d_EM_init_165 kn_i_1 ?_
  replace h := xb h
  obtain ⟨K3, hv, h⟩ := h
  refine xr_bast C X 1 (by decide) rfl rfl d_EM_init_166 hv (fun H locs X => ?_)
  refine lv_dup hx hb d_EM_init_167 rfl ?_
  refine lv_iconst hx hb d_EM_init_168 kn_i_1 ?_
  refine lv_iconst hx hb d_EM_init_169 kn_i_1 ?_
  replace h := xb h
  obtain ⟨K4, hv, h⟩ := h
  refine xr_bast C X 1 (by decide) rfl rfl d_EM_init_170 hv (fun H locs X => ?_)
  replace h := xb h
  obtain ⟨K5, hv, h⟩ := h
  refine xr_pr (v := (some q1)) C X xc_EM (by decide) 11 (by decide) (by decide) rfl (Or.inr ⟨_, rfl⟩) rfl m_473 d_EM_init_171 hv (fun H locs X => ?_)
  refine lv_aload_n hx hb d_EM_init_174 rfl (lv_at hl 0 rfl) ?_
  refine lv_iconst hx hb d_EM_init_175 kn_i_2 ?_
  replace h := xpb h
  obtain ⟨q6, K7, hv, h⟩ := h
  refine xr_newa (ty := .int) (atype := .int) C X 0 (N := 2) rfl (by decide) rfl rfl (fun h => h) m_18 rfl (by decide +kernel) (by decide +kernel) (by decide +kernel) d_EM_init_176 (Nat.le_of_ble_eq_true rfl) (Nat.le_of_ble_eq_true rfl) hv (fun H X => ?_)
  refine lv_dup hx hb d_EM_init_178 rfl ?_
  refine lv_iconst hx hb d_EM_init_179 kn_i_0 ?_
  refine lv_bipush hx hb d_EM_init_180 kn_b_10 ?_
  replace h := xb h
  obtain ⟨K8, hv, h⟩ := h
  refine xr_iast C X 0 (by decide) rfl rfl d_EM_init_182 hv (fun H locs X => ?_)
  refine lv_dup hx hb d_EM_init_183 rfl ?_
  refine lv_iconst hx hb d_EM_init_184 kn_i_1 ?_
  refine lv_bipush hx hb d_EM_init_185 kn_b_10 ?_
  replace h := xb h
  obtain ⟨K9, hv, h⟩ := h
  refine xr_iast C X 0 (by decide) rfl rfl d_EM_init_187 hv (fun H locs X => ?_)
  replace h := xb h
  obtain ⟨K10, hv, h⟩ := h
  refine xr_pr (v := (some q6)) C X xc_EM (by decide) 12 (by decide) (by decide) rfl (Or.inr ⟨_, rfl⟩) rfl m_474 d_EM_init_188 hv (fun H locs X => ?_)
  exact kw_EM_init_191 (th := th) C hlk hr hin  X (lv_sub hl [0] rfl) h
set_option maxHeartbeats 4000000 in
set_option maxRecDepth 100000 in
theorem kw_EM_init_118 {th : Nat} (C : xx_C p m c b_EM_init 2 s args Rn_EM E) (hlk : meth.locks = false) (hr : meth.sig.returnType = none) (hin : meth.name = "<init>") (X : xx_S E K M s H locs) (hl : lv_has ls 2 [(0, .ref th)]) (h : kf_EM_init_118 K th = some K') : W p l e { frames := 1, cells := 55, slots := 7649, locals := 20 } s m args below meth c H locs 7 318 (MQ below (xq_v E K' M) args s 55 7649 (xe_A E)) (F0 m 118 ls []) := by
  have hx := C.1.1
  have hb := C.1.2.1
  unfold kf_EM_init_118 at h
  refine lv_aload_n hx hb d_EM_init_118 rfl (lv_at hl 0 rfl) ?_
  refine lv_sipush hx hb d_EM_init_119 kn_s_300 ?_
  replace h := xpb h
  obtain ⟨q1, K2, hv, h⟩ := h
  refine xr_newa (ty := .int) (atype := .int) C X 0 (N := 300) rfl (by decide) rfl rfl (fun h => h) m_18 rfl (by decide +kernel) (by decide +kernel) (by decide +kernel) d_EM_init_122 (Nat.le_of_ble_eq_true rfl) (Nat.le_of_ble_eq_true rfl) hv (fun H X => ?_)
  replace h := xb h
  obtain ⟨K3, hv, h⟩ := h
  refine xr_pr (v := (some q1)) C X xc_EM (by decide) 7 (by decide) (by decide) rfl (Or.inr ⟨_, rfl⟩) rfl m_469 d_EM_init_124 hv (fun H locs X => ?_)
  refine lv_aload_n hx hb d_EM_init_127 rfl (lv_at hl 0 rfl) ?_
  refine lv_sipush hx hb d_EM_init_128 kn_s_2400 ?_
  replace h := xpb h
  obtain ⟨q4, K5, hv, h⟩ := h
  refine xr_newa (ty := .int) (atype := .int) C X 0 (N := 2400) rfl (by decide) rfl rfl (fun h => h) m_18 rfl (by decide +kernel) (by decide +kernel) (by decide +kernel) d_EM_init_131 (Nat.le_of_ble_eq_true rfl) (Nat.le_of_ble_eq_true rfl) hv (fun H X => ?_)
  replace h := xb h
  obtain ⟨K6, hv, h⟩ := h
  refine xr_pr (v := (some q4)) C X xc_EM (by decide) 8 (by decide) (by decide) rfl (Or.inr ⟨_, rfl⟩) rfl m_470 d_EM_init_133 hv (fun H locs X => ?_)
  refine lv_aload_n hx hb d_EM_init_136 rfl (lv_at hl 0 rfl) ?_
  refine lv_bipush hx hb d_EM_init_137 kn_b_30 ?_
  replace h := xpb h
  obtain ⟨q7, K8, hv, h⟩ := h
  refine xr_newa (ty := .int) (atype := .int) C X 0 (N := 30) rfl (by decide) rfl rfl (fun h => h) m_18 rfl (by decide +kernel) (by decide +kernel) (by decide +kernel) d_EM_init_139 (Nat.le_of_ble_eq_true rfl) (Nat.le_of_ble_eq_true rfl) hv (fun H X => ?_)
  replace h := xb h
  obtain ⟨K9, hv, h⟩ := h
  refine xr_pr (v := (some q7)) C X xc_EM (by decide) 9 (by decide) (by decide) rfl (Or.inr ⟨_, rfl⟩) rfl m_471 d_EM_init_141 hv (fun H locs X => ?_)
  refine lv_aload_n hx hb d_EM_init_144 rfl (lv_at hl 0 rfl) ?_
  refine lv_iconst hx hb d_EM_init_145 kn_i_2 ?_
  replace h := xpb h
  obtain ⟨q10, K11, hv, h⟩ := h
  refine xr_newa (ty := .int) (atype := .int) C X 0 (N := 2) rfl (by decide) rfl rfl (fun h => h) m_18 rfl (by decide +kernel) (by decide +kernel) (by decide +kernel) d_EM_init_146 (Nat.le_of_ble_eq_true rfl) (Nat.le_of_ble_eq_true rfl) hv (fun H X => ?_)
  refine lv_dup hx hb d_EM_init_148 rfl ?_
  refine lv_iconst hx hb d_EM_init_149 kn_i_0 ?_
  refine lv_iconst hx hb d_EM_init_150 kn_i_1 ?_
  replace h := xb h
  obtain ⟨K12, hv, h⟩ := h
  refine xr_iast C X 0 (by decide) rfl rfl d_EM_init_151 hv (fun H locs X => ?_)
  refine lv_dup hx hb d_EM_init_152 rfl ?_
  refine lv_iconst hx hb d_EM_init_153 kn_i_1 ?_
  refine lv_iconst hx hb d_EM_init_154 kn_i_1 ?_
  replace h := xb h
  obtain ⟨K13, hv, h⟩ := h
  refine xr_iast C X 0 (by decide) rfl rfl d_EM_init_155 hv (fun H locs X => ?_)
  replace h := xb h
  obtain ⟨K14, hv, h⟩ := h
  refine xr_pr (v := (some q10)) C X xc_EM (by decide) 10 (by decide) (by decide) rfl (Or.inr ⟨_, rfl⟩) rfl m_472 d_EM_init_156 hv (fun H locs X => ?_)
  exact kw_EM_init_159 (th := th) C hlk hr hin  X (lv_sub hl [0] rfl) h
set_option maxHeartbeats 4000000 in
set_option maxRecDepth 100000 in
theorem kw_EM_init_80 {th : Nat} (C : xx_C p m c b_EM_init 2 s args Rn_EM E) (hlk : meth.locks = false) (hr : meth.sig.returnType = none) (hin : meth.name = "<init>") (X : xx_S E K M s H locs) (hl : lv_has ls 2 [(0, .ref th)]) (h : kf_EM_init_80 K th = some K') : W p l e { frames := 1, cells := 55, slots := 7649, locals := 20 } s m args below meth c H locs 4 12 (MQ below (xq_v E K' M) args s 55 7649 (xe_A E)) (F0 m 80 ls []) := by
  have hx := C.1.1
  have hb := C.1.2.1
  unfold kf_EM_init_80 at h
  refine lv_aload_n hx hb d_EM_init_80 rfl (lv_at hl 0 rfl) ?_
  refine lv_iconst hx hb d_EM_init_81 kn_i_3 ?_
  replace h := xpb h
  obtain ⟨q1, K2, hv, h⟩ := h
  refine xr_newa (ty := .int) (atype := .int) C X 0 (N := 3) rfl (by decide) rfl rfl (fun h => h) m_18 rfl (by decide +kernel) (by decide +kernel) (by decide +kernel) d_EM_init_82 (Nat.le_of_ble_eq_true rfl) (Nat.le_of_ble_eq_true rfl) hv (fun H X => ?_)
  refine lv_dup hx hb d_EM_init_84 rfl ?_
  refine lv_iconst hx hb d_EM_init_85 kn_i_0 ?_
  refine lv_bipush hx hb d_EM_init_86 kn_b_10 ?_
  replace h := xb h
  obtain ⟨K3, hv, h⟩ := h
  refine xr_iast C X 0 (by decide) rfl rfl d_EM_init_88 hv (fun H locs X => ?_)
  refine lv_dup hx hb d_EM_init_89 rfl ?_
  refine lv_iconst hx hb d_EM_init_90 kn_i_1 ?_
  refine lv_bipush hx hb d_EM_init_91 kn_b_10 ?_
  replace h := xb h
  obtain ⟨K4, hv, h⟩ := h
  refine xr_iast C X 0 (by decide) rfl rfl d_EM_init_93 hv (fun H locs X => ?_)
  refine lv_dup hx hb d_EM_init_94 rfl ?_
  refine lv_iconst hx hb d_EM_init_95 kn_i_2 ?_
  refine lv_bipush hx hb d_EM_init_96 kn_b_10 ?_
  replace h := xb h
  obtain ⟨K5, hv, h⟩ := h
  refine xr_iast C X 0 (by decide) rfl rfl d_EM_init_98 hv (fun H locs X => ?_)
  replace h := xb h
  obtain ⟨K6, hv, h⟩ := h
  refine xr_pr (v := (some q1)) C X xc_EM (by decide) 4 (by decide) (by decide) rfl (Or.inr ⟨_, rfl⟩) rfl m_466 d_EM_init_99 hv (fun H locs X => ?_)
  refine lv_aload_n hx hb d_EM_init_102 rfl (lv_at hl 0 rfl) ?_
  refine lv_iconst hx hb d_EM_init_103 kn_i_3 ?_
  replace h := xpb h
  obtain ⟨q7, K8, hv, h⟩ := h
  refine xr_newa (ty := .int) (atype := .int) C X 0 (N := 3) rfl (by decide) rfl rfl (fun h => h) m_18 rfl (by decide +kernel) (by decide +kernel) (by decide +kernel) d_EM_init_104 (Nat.le_of_ble_eq_true rfl) (Nat.le_of_ble_eq_true rfl) hv (fun H X => ?_)
  replace h := xb h
  obtain ⟨K9, hv, h⟩ := h
  refine xr_pr (v := (some q7)) C X xc_EM (by decide) 5 (by decide) (by decide) rfl (Or.inr ⟨_, rfl⟩) rfl m_467 d_EM_init_106 hv (fun H locs X => ?_)
  refine lv_aload_n hx hb d_EM_init_109 rfl (lv_at hl 0 rfl) ?_
  refine lv_sipush hx hb d_EM_init_110 kn_s_300 ?_
  replace h := xpb h
  obtain ⟨q10, K11, hv, h⟩ := h
  refine xr_newa (ty := .int) (atype := .int) C X 0 (N := 300) rfl (by decide) rfl rfl (fun h => h) m_18 rfl (by decide +kernel) (by decide +kernel) (by decide +kernel) d_EM_init_113 (Nat.le_of_ble_eq_true rfl) (Nat.le_of_ble_eq_true rfl) hv (fun H X => ?_)
  replace h := xb h
  obtain ⟨K12, hv, h⟩ := h
  refine xr_pr (v := (some q10)) C X xc_EM (by decide) 6 (by decide) (by decide) rfl (Or.inr ⟨_, rfl⟩) rfl m_468 d_EM_init_115 hv (fun H locs X => ?_)
  exact kw_EM_init_118 (th := th) C hlk hr hin  X (lv_sub hl [0] rfl) h
set_option maxHeartbeats 4000000 in
set_option maxRecDepth 100000 in
theorem kw_EM_init_42 {th : Nat} (C : xx_C p m c b_EM_init 2 s args Rn_EM E) (hlk : meth.locks = false) (hr : meth.sig.returnType = none) (hin : meth.name = "<init>") (X : xx_S E K M s H locs) (hl : lv_has ls 2 [(0, .ref th)]) (h : kf_EM_init_42 K th = some K') : W p l e { frames := 1, cells := 55, slots := 7649, locals := 20 } s m args below meth c H locs 2 6 (MQ below (xq_v E K' M) args s 55 7649 (xe_A E)) (F0 m 42 ls []) := by
  have hx := C.1.1
  have hb := C.1.2.1
  unfold kf_EM_init_42 at h
  refine lv_aload_n hx hb d_EM_init_42 rfl (lv_at hl 0 rfl) ?_
  refine lv_iconst hx hb d_EM_init_43 kn_i_3 ?_
  replace h := xpb h
  obtain ⟨q1, K2, hv, h⟩ := h
  refine xr_newa (ty := .int) (atype := .int) C X 0 (N := 3) rfl (by decide) rfl rfl (fun h => h) m_18 rfl (by decide +kernel) (by decide +kernel) (by decide +kernel) d_EM_init_44 (Nat.le_of_ble_eq_true rfl) (Nat.le_of_ble_eq_true rfl) hv (fun H X => ?_)
  refine lv_dup hx hb d_EM_init_46 rfl ?_
  refine lv_iconst hx hb d_EM_init_47 kn_i_0 ?_
  refine lv_iconst hx hb d_EM_init_48 kn_i_1 ?_
  replace h := xb h
  obtain ⟨K3, hv, h⟩ := h
  refine xr_iast C X 0 (by decide) rfl rfl d_EM_init_49 hv (fun H locs X => ?_)
  refine lv_dup hx hb d_EM_init_50 rfl ?_
  refine lv_iconst hx hb d_EM_init_51 kn_i_1 ?_
  refine lv_iconst hx hb d_EM_init_52 kn_i_1 ?_
  replace h := xb h
  obtain ⟨K4, hv, h⟩ := h
  refine xr_iast C X 0 (by decide) rfl rfl d_EM_init_53 hv (fun H locs X => ?_)
  refine lv_dup hx hb d_EM_init_54 rfl ?_
  refine lv_iconst hx hb d_EM_init_55 kn_i_2 ?_
  refine lv_iconst hx hb d_EM_init_56 kn_i_1 ?_
  replace h := xb h
  obtain ⟨K5, hv, h⟩ := h
  refine xr_iast C X 0 (by decide) rfl rfl d_EM_init_57 hv (fun H locs X => ?_)
  replace h := xb h
  obtain ⟨K6, hv, h⟩ := h
  refine xr_pr (v := (some q1)) C X xc_EM (by decide) 2 (by decide) (by decide) rfl (Or.inr ⟨_, rfl⟩) rfl m_464 d_EM_init_58 hv (fun H locs X => ?_)
  refine lv_aload_n hx hb d_EM_init_61 rfl (lv_at hl 0 rfl) ?_
  refine lv_iconst hx hb d_EM_init_62 kn_i_3 ?_
  replace h := xpb h
  obtain ⟨q7, K8, hv, h⟩ := h
  refine xr_newa (ty := .boolean) (atype := .boolean) C X 1 (N := 3) rfl (by decide) rfl rfl (fun h => h) m_462 rfl (by decide +kernel) (by decide +kernel) (by decide +kernel) d_EM_init_63 (Nat.le_of_ble_eq_true rfl) (Nat.le_of_ble_eq_true rfl) hv (fun H X => ?_)
  refine lv_dup hx hb d_EM_init_65 rfl ?_
  refine lv_iconst hx hb d_EM_init_66 kn_i_0 ?_
  refine lv_iconst hx hb d_EM_init_67 kn_i_1 ?_
  replace h := xb h
  obtain ⟨K9, hv, h⟩ := h
  refine xr_bast C X 1 (by decide) rfl rfl d_EM_init_68 hv (fun H locs X => ?_)
  refine lv_dup hx hb d_EM_init_69 rfl ?_
  refine lv_iconst hx hb d_EM_init_70 kn_i_1 ?_
  refine lv_iconst hx hb d_EM_init_71 kn_i_1 ?_
  replace h := xb h
  obtain ⟨K10, hv, h⟩ := h
  refine xr_bast C X 1 (by decide) rfl rfl d_EM_init_72 hv (fun H locs X => ?_)
  refine lv_dup hx hb d_EM_init_73 rfl ?_
  refine lv_iconst hx hb d_EM_init_74 kn_i_2 ?_
  refine lv_iconst hx hb d_EM_init_75 kn_i_1 ?_
  replace h := xb h
  obtain ⟨K11, hv, h⟩ := h
  refine xr_bast C X 1 (by decide) rfl rfl d_EM_init_76 hv (fun H locs X => ?_)
  replace h := xb h
  obtain ⟨K12, hv, h⟩ := h
  refine xr_pr (v := (some q7)) C X xc_EM (by decide) 3 (by decide) (by decide) rfl (Or.inr ⟨_, rfl⟩) rfl m_465 d_EM_init_77 hv (fun H locs X => ?_)
  exact kw_EM_init_80 (th := th) C hlk hr hin  X (lv_sub hl [0] rfl) h
set_option maxHeartbeats 4000000 in
set_option maxRecDepth 100000 in
theorem kw_EM_init_0 {th : Nat} (C : xx_C p m c b_EM_init 2 s args Rn_EM E) (hlk : meth.locks = false) (hr : meth.sig.returnType = none) (hin : meth.name = "<init>") (X : xx_S E K M s H locs) (hl : lv_has ls 2 [(0, .ref th)]) (h : kf_EM_init_0 K th = some K') : W p l e { frames := 1, cells := 55, slots := 7649, locals := 20 } s m args below meth c H locs 0 0 (MQ below (xq_v E K' M) args s 55 7649 (xe_A E)) (F0 m 0 ls []) := by
  have hx := C.1.1
  have hb := C.1.2.1
  unfold kf_EM_init_0 at h
  refine lv_aload_n hx hb d_EM_init_0 rfl (lv_at hl 0 rfl) ?_
  refine W.objInit hx hb C.1.2.2.2.1 (C.1.2.2.2.2 _ m_460) (C.1.2.2.2.2 _ m_1) (C.1.2.2.2.2 _ m_2) rfl (by rw [C.1.2.2.1]; exact hl.1) rfl d_EM_init_1 (Nat.le_of_ble_eq_true rfl) (Nat.le_of_ble_eq_true rfl) ?_
  refine W.eq (g2 := F0 m 4 ls []) rfl ?_
  refine lv_aload_n hx hb d_EM_init_4 rfl (lv_at hl 0 rfl) ?_
  refine lv_iconst hx hb d_EM_init_5 kn_i_3 ?_
  replace h := xpb h
  obtain ⟨q1, K2, hv, h⟩ := h
  refine xr_newa (ty := .int) (atype := .int) C X 0 (N := 3) rfl (by decide) rfl rfl (fun h => h) m_18 rfl (by decide +kernel) (by decide +kernel) (by decide +kernel) d_EM_init_6 (Nat.le_of_ble_eq_true rfl) (Nat.le_of_ble_eq_true rfl) hv (fun H X => ?_)
  refine lv_dup hx hb d_EM_init_8 rfl ?_
  refine lv_iconst hx hb d_EM_init_9 kn_i_0 ?_
  refine lv_iconst hx hb d_EM_init_10 kn_i_1 ?_
  replace h := xb h
  obtain ⟨K3, hv, h⟩ := h
  refine xr_iast C X 0 (by decide) rfl rfl d_EM_init_11 hv (fun H locs X => ?_)
  refine lv_dup hx hb d_EM_init_12 rfl ?_
  refine lv_iconst hx hb d_EM_init_13 kn_i_1 ?_
  refine lv_iconst hx hb d_EM_init_14 kn_i_1 ?_
  replace h := xb h
  obtain ⟨K4, hv, h⟩ := h
  refine xr_iast C X 0 (by decide) rfl rfl d_EM_init_15 hv (fun H locs X => ?_)
  refine lv_dup hx hb d_EM_init_16 rfl ?_
  refine lv_iconst hx hb d_EM_init_17 kn_i_2 ?_
  refine lv_iconst hx hb d_EM_init_18 kn_i_1 ?_
  replace h := xb h
  obtain ⟨K5, hv, h⟩ := h
  refine xr_iast C X 0 (by decide) rfl rfl d_EM_init_19 hv (fun H locs X => ?_)
  replace h := xb h
  obtain ⟨K6, hv, h⟩ := h
  refine xr_pr (v := (some q1)) C X xc_EM (by decide) 0 (by decide) (by decide) rfl (Or.inr ⟨_, rfl⟩) rfl m_461 d_EM_init_20 hv (fun H locs X => ?_)
  refine lv_aload_n hx hb d_EM_init_23 rfl (lv_at hl 0 rfl) ?_
  refine lv_iconst hx hb d_EM_init_24 kn_i_3 ?_
  replace h := xpb h
  obtain ⟨q7, K8, hv, h⟩ := h
  refine xr_newa (ty := .boolean) (atype := .boolean) C X 1 (N := 3) rfl (by decide) rfl rfl (fun h => h) m_462 rfl (by decide +kernel) (by decide +kernel) (by decide +kernel) d_EM_init_25 (Nat.le_of_ble_eq_true rfl) (Nat.le_of_ble_eq_true rfl) hv (fun H X => ?_)
  refine lv_dup hx hb d_EM_init_27 rfl ?_
  refine lv_iconst hx hb d_EM_init_28 kn_i_0 ?_
  refine lv_iconst hx hb d_EM_init_29 kn_i_1 ?_
  replace h := xb h
  obtain ⟨K9, hv, h⟩ := h
  refine xr_bast C X 1 (by decide) rfl rfl d_EM_init_30 hv (fun H locs X => ?_)
  refine lv_dup hx hb d_EM_init_31 rfl ?_
  refine lv_iconst hx hb d_EM_init_32 kn_i_1 ?_
  refine lv_iconst hx hb d_EM_init_33 kn_i_1 ?_
  replace h := xb h
  obtain ⟨K10, hv, h⟩ := h
  refine xr_bast C X 1 (by decide) rfl rfl d_EM_init_34 hv (fun H locs X => ?_)
  refine lv_dup hx hb d_EM_init_35 rfl ?_
  refine lv_iconst hx hb d_EM_init_36 kn_i_2 ?_
  refine lv_iconst hx hb d_EM_init_37 kn_i_1 ?_
  replace h := xb h
  obtain ⟨K11, hv, h⟩ := h
  refine xr_bast C X 1 (by decide) rfl rfl d_EM_init_38 hv (fun H locs X => ?_)
  replace h := xb h
  obtain ⟨K12, hv, h⟩ := h
  refine xr_pr (v := (some q7)) C X xc_EM (by decide) 1 (by decide) (by decide) rfl (Or.inr ⟨_, rfl⟩) rfl m_463 d_EM_init_39 hv (fun H locs X => ?_)
  exact kw_EM_init_42 (th := th) C hlk hr hin  X (lv_sub hl [0] rfl) h
theorem kc_EM_init (l : Launch) (E : xe) {th : Nat} (h : kf_EM_init_0 K th = some K') : Met l y_EM_init (Cond.code y_EM_init b_EM_init 2 none :: w_all) { frames := 1, cells := 55, slots := 7649, locals := 20 } (va_Pc [.ref th] (fun U => xx_B E K M U)) (xq_v E K' M) 55 7649 (xe_A E) :=
  xr_met (by decide) (Nat.le_of_ble_eq_true rfl) fun p e s m below meth c ls C X hlk hr hin hl => kw_EM_init_0 C hlk hr hin X hl h
end KW12
