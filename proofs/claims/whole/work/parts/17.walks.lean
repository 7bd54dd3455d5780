/-! EpochStore.<init>()V -/
def kf_ES_init_138003 (K : xk) (th : Nat) : Option xk := (xR K 0 4 th).bind fun v1 => xp (xNw K 9 0) fun q2 K3 => (kf_Master_init_0 K3 q2 (1 : Int32) (7 : Int32) (10 : Int32)).bind fun K4 => (v1).bind fun a6 => (xRt K4 6 8 a6 (1 : Int32) (some q2)).bind fun K5 => some K5
def kf_ES_init_138002 (K : xk) (th : Nat) : Option xk := (xR K 0 3 th).bind fun v1 => xp (xNw K 12 0) fun q2 K3 => (kf_Client_init_0 K3 q2 (2 : Int32)).bind fun K4 => (v1).bind fun a6 => (xRt K4 5 11 a6 (2 : Int32) (some q2)).bind fun K5 => kf_ES_init_138003 K5 th
def kf_ES_init_138001 (K : xk) (th : Nat) : Option xk := (xR K 0 3 th).bind fun v1 => xp (xNw K 12 0) fun q2 K3 => (kf_Client_init_0 K3 q2 (1 : Int32)).bind fun K4 => (v1).bind fun a6 => (xRt K4 5 11 a6 (1 : Int32) (some q2)).bind fun K5 => kf_ES_init_138002 K5 th
def kf_ES_init_138000 (K : xk) (th : Nat) : Option xk := (xR K 0 3 th).bind fun v1 => xp (xNw K 12 0) fun q2 K3 => (kf_Client_init_0 K3 q2 (0 : Int32)).bind fun K4 => (v1).bind fun a6 => (xRt K4 5 11 a6 (0 : Int32) (some q2)).bind fun K5 => kf_ES_init_138001 K5 th
def kf_ES_init_111002 (K : xk) (th : Nat) : Option xk := kf_ES_init_138000 K th
def kf_ES_init_111001 (K : xk) (th : Nat) : Option xk := (xR K 0 2 th).bind fun v1 => xp (xNw K 11 0) fun q2 K3 => (kf_Storage_init_0 K3 q2 (1 : Int32)).bind fun K4 => (v1).bind fun a6 => (xRt K4 4 10 a6 (1 : Int32) (some q2)).bind fun K5 => kf_ES_init_111002 K5 th
def kf_ES_init_111000 (K : xk) (th : Nat) : Option xk := (xR K 0 2 th).bind fun v1 => xp (xNw K 11 0) fun q2 K3 => (kf_Storage_init_0 K3 q2 (0 : Int32)).bind fun K4 => (v1).bind fun a6 => (xRt K4 4 10 a6 (0 : Int32) (some q2)).bind fun K5 => kf_ES_init_111001 K5 th
def kf_ES_init_84003 (K : xk) (th : Nat) : Option xk := kf_ES_init_111000 K th
def kf_ES_init_84002 (K : xk) (th : Nat) : Option xk := (xR K 0 1 th).bind fun v1 => xp (xNw K 10 0) fun q2 K3 => (kf_Log_init_0 K3 q2 (2 : Int32)).bind fun K4 => (v1).bind fun a6 => (xRt K4 3 9 a6 (2 : Int32) (some q2)).bind fun K5 => kf_ES_init_84003 K5 th
def kf_ES_init_84001 (K : xk) (th : Nat) : Option xk := (xR K 0 1 th).bind fun v1 => xp (xNw K 10 0) fun q2 K3 => (kf_Log_init_0 K3 q2 (1 : Int32)).bind fun K4 => (v1).bind fun a6 => (xRt K4 3 9 a6 (1 : Int32) (some q2)).bind fun K5 => kf_ES_init_84002 K5 th
def kf_ES_init_84000 (K : xk) (th : Nat) : Option xk := (xR K 0 1 th).bind fun v1 => xp (xNw K 10 0) fun q2 K3 => (kf_Log_init_0 K3 q2 (0 : Int32)).bind fun K4 => (v1).bind fun a6 => (xRt K4 3 9 a6 (0 : Int32) (some q2)).bind fun K5 => kf_ES_init_84001 K5 th
def kf_ES_init_58003 (K : xk) (th : Nat) : Option xk := kf_ES_init_84000 K th
def kf_ES_init_58002 (K : xk) (th : Nat) : Option xk := (xR K 0 0 th).bind fun v1 => xp (xNw K 2 0) fun q2 K3 => (kf_Coordinator_init_0 K3 q2).bind fun K4 => (v1).bind fun a6 => (xRt K4 2 1 a6 (2 : Int32) (some q2)).bind fun K5 => kf_ES_init_58003 K5 th
def kf_ES_init_58001 (K : xk) (th : Nat) : Option xk := (xR K 0 0 th).bind fun v1 => xp (xNw K 2 0) fun q2 K3 => (kf_Coordinator_init_0 K3 q2).bind fun K4 => (v1).bind fun a6 => (xRt K4 2 1 a6 (1 : Int32) (some q2)).bind fun K5 => kf_ES_init_58002 K5 th
def kf_ES_init_58000 (K : xk) (th : Nat) : Option xk := (xR K 0 0 th).bind fun v1 => xp (xNw K 2 0) fun q2 K3 => (kf_Coordinator_init_0 K3 q2).bind fun K4 => (v1).bind fun a6 => (xRt K4 2 1 a6 (0 : Int32) (some q2)).bind fun K5 => kf_ES_init_58001 K5 th
def kf_ES_init_0 (K : xk) (th : Nat) : Option xk := xp (xNw K 102 3) fun q1 K2 => (xRs K2 0 0 th (some q1)).bind fun K3 => xp (xNw K3 103 3) fun q4 K5 => (xRs K5 0 1 th (some q4)).bind fun K6 => xp (xNw K6 104 2) fun q7 K8 => (xRs K8 0 2 th (some q7)).bind fun K9 => xp (xNw K9 105 3) fun q10 K11 => (xRs K11 0 3 th (some q10)).bind fun K12 => xp (xNw K12 106 10) fun q13 K14 => (xRs K14 0 4 th (some q13)).bind fun K15 => xp (xNw K15 6 0) fun q16 K17 => (kf_Line_init_0 K17 q16).bind fun K18 => (xRs K18 0 5 th (some q16)).bind fun K19 => kf_ES_init_58000 K19 th
/-! EpochStore.epochOfMajority()I -/
def kf_ES_epochOfMajority_55 (K : xk) : Option (Int32 × xk) := some ((-1 : Int32), K)
def kb_ES_epochOfMajority_6 (rec6 : xk → Nat → Int32 → Int32 → Int32 → Option (Int32 × xk)) (K : xk) (th : Nat) (x1 : Int32) (x2 : Int32) (x3 : Int32) : Option (Int32 × xk) := if (3 : Int32) ≤ x3 then (if x1 < (2 : Int32) then (kf_ES_epochOfMajority_55 K) else some (x2, K)) else (xR K 0 0 th).bind fun v1 => (v1).bind fun a3 => (xRa K 2 a3 x3).bind fun v2 => (v2).bind fun a4 => (xI K 1 0 a4).bind fun v5 => if v5 = 0 then (rec6 K th x1 x2 (x3 + (1 : Int32))) else (xR K 0 0 th).bind fun v6 => (v6).bind fun a8 => (xRa K 2 a8 x3).bind fun v7 => (v7).bind fun a9 => (xI K 1 1 a9).bind fun v10 => rec6 K th (x1 + (1 : Int32)) (if x2 < v10 then v10 else x2) (x3 + (1 : Int32))
def kf_ES_epochOfMajority_6 : Nat → xk → Nat → Int32 → Int32 → Int32 → Option (Int32 × xk)
  | 0 => fun _ _ _ _ _ => none
  | n + 1 => kb_ES_epochOfMajority_6 (kf_ES_epochOfMajority_6 n)
def kf_ES_epochOfMajority_0 (K : xk) (th : Nat) : Option (Int32 × xk) := kf_ES_epochOfMajority_6 1000 K th (0 : Int32) (-1 : Int32) (0 : Int32)
/-! EpochStore.isClient(I)Z -/
def kf_ES_isClient_0 (K : xk) (x0 : Int32) : Option (Int32 × xk) := if x0 < 0 then (some ((0 : Int32), K)) else if (3 : Int32) ≤ x0 then (some ((0 : Int32), K)) else some ((1 : Int32), K)
/-! EpochStore.find(I)I -/
def kf_ES_find_0 (K : xk) (th : Nat) (x1 : Int32) : Option (Int32 × xk) := (xO K 0 th).bind fun _ => xp (kf_ES_epochOfMajority_0 K th) fun r3 K1 => xp (kf_ES_isClient_0 K1 x1) fun r5 K4 => if r5 = 0 then (some ((-1 : Int32), K4)) else if r3 = (-1 : Int32) then (some ((-1 : Int32), K4)) else (xR K4 0 3 th).bind fun v6 => (v6).bind fun a8 => (xRa K4 5 a8 x1).bind fun v7 => (v7).bind fun a9 => (xIs K4 11 1 a9 r3).bind fun K10 => some (r3, K10)
/-! EpochStore$Client.isBusy()Z -/
def kf_Client_isBusy_0 (K : xk) (th : Nat) : Option (Int32 × xk) := (xI K 11 3 th).bind fun v1 => if v1 = (1 : Int32) then (some ((1 : Int32), K)) else (xI K 11 3 th).bind fun v2 => if v2 = (2 : Int32) then (some ((1 : Int32), K)) else (xI K 11 3 th).bind fun v3 => if v3 = (3 : Int32) then (some ((1 : Int32), K)) else some ((0 : Int32), K)
section KW3
variable {p : Program} {l : Launch} {e : Env} {s : State} {m : MethodId} {args : Array Value} {below : List Frame} {meth : Method} {c : Code} {H : Heap} {locs : List Loc} {ls : Array Slot} {E : xe} {K K' : xk} {M M' : xm}
set_option maxHeartbeats 4000000 in
set_option maxRecDepth 100000 in
theorem kw_ES_init_138003 {th : Nat} (C : xx_C p m c b_ES_init 2 s args Rn_ES E) (hlk : meth.locks = false) (hr : meth.sig.returnType = none) (hin : meth.name = "<init>") (X : xx_S E K M s H locs) (hl : lv_has ls 2 [(0, .ref th), (1, .int (3 : Int32))]) (h : kf_ES_init_138003 K th = some K') : W p l e { frames := 3, cells := 62, slots := 971, locals := 61 } s m args below meth c H locs 58 935 (MQ below (xq_v E K' M) args s 62 971 (xe_A E)) (F0 m 138 ls []) := by
  have hx := C.1.1
  have hb := C.1.2.1
  unfold kf_ES_init_138003 at h
  refine lv_iload_n hx hb d_ES_init_138 rfl (lv_at hl 1 rfl) ?_
  refine lv_iconst hx hb d_ES_init_139 kn_i_3 ?_
  refine lv_icmp_ge (tgt := 163) hx hb d_ES_init_140 (by decide +kernel) (fun _ => ?_) (fun hc => absurd hc (by decide +kernel))
  refine lv_aload_n hx hb d_ES_init_163 rfl (lv_at hl 0 rfl) ?_
  replace h := xb h
  obtain ⟨v1, hv, h⟩ := h
  refine xr_gr C X xc_ES (by decide) 4 (by decide) (by decide) rfl m_65 d_ES_init_164 hv ?_
  refine lv_iconst hx hb d_ES_init_167 kn_i_1 ?_
  replace h := xpb h
  obtain ⟨q2, K3, hv, h⟩ := h
  refine xr_new C X xc_Master (by decide) rfl xdf_Master m_64 m_92 m_93 d_ES_init_168 (Nat.le_of_ble_eq_true rfl) (Nat.le_of_ble_eq_true rfl) hv (fun H X => ?_)
  refine lv_dup hx hb d_ES_init_171 rfl ?_
  refine lv_iconst hx hb d_ES_init_172 kn_i_1 ?_
  refine lv_bipush hx hb d_ES_init_173 kn_b_7 ?_
  refine lv_bipush hx hb d_ES_init_175 kn_b_10 ?_
  replace h := xb h
  obtain ⟨K4, hv, h⟩ := h
  refine xr_kv (va_runI (As := [.int (1 : Int32), .int (7 : Int32), .int (10 : Int32)]) (rest := [.ref q2, .int (1 : Int32), va_rf v1]) C.1 (kc_Master_init l E hv) (cwI 3 C.1.2.2.2.2 (xw_in m_95) rfl rfl rfl (C.1.2.2.2.2 _ m_93) (C.1.2.2.2.2 _ m_94) (C.1.2.2.2.2 _ m_96) rfl ky_Master_init ⟨(Nat.le_of_ble_eq_true rfl), (Nat.le_of_ble_eq_true rfl)⟩) (xr_pS C X) rfl rfl hl.1 rfl (lv_room (by simp [xr_cat, xr_c_i, xr_c_a, xr_c_l])) d_ES_init_177 ⟨(Nat.le_of_ble_eq_true rfl), (Nat.le_of_ble_eq_true rfl)⟩) X (fun H locs X => ?_)
  replace h := xb h
  obtain ⟨a6, rfl, h⟩ := h
  replace h := xb h
  obtain ⟨K5, hv, h⟩ := h
  refine xr_aast (v := (some q2)) C X 6 8 (by decide) (by decide) rfl rfl rfl d_ES_init_180 hv (fun H locs X => ?_)
  obtain rfl := Option.some.inj h
  exact xr_vret C X hlk hr d_ES_init_181 (Nat.le_of_ble_eq_true rfl) (Nat.le_of_ble_eq_true rfl)
set_option maxHeartbeats 4000000 in
set_option maxRecDepth 100000 in
theorem kw_ES_init_138002 {th : Nat} (C : xx_C p m c b_ES_init 2 s args Rn_ES E) (hlk : meth.locks = false) (hr : meth.sig.returnType = none) (hin : meth.name = "<init>") (X : xx_S E K M s H locs) (hl : lv_has ls 2 [(0, .ref th), (1, .int (2 : Int32))]) (h : kf_ES_init_138002 K th = some K') : W p l e { frames := 3, cells := 62, slots := 971, locals := 61 } s m args below meth c H locs 55 916 (MQ below (xq_v E K' M) args s 62 971 (xe_A E)) (F0 m 138 ls []) := by
  have hx := C.1.1
  have hb := C.1.2.1
  unfold kf_ES_init_138002 at h
  refine lv_iload_n hx hb d_ES_init_138 rfl (lv_at hl 1 rfl) ?_
  refine lv_iconst hx hb d_ES_init_139 kn_i_3 ?_
  refine lv_icmp_ge (tgt := 163) hx hb d_ES_init_140 (by decide +kernel) (fun hc => absurd hc (by decide +kernel)) (fun _ => ?_)
  refine lv_aload_n hx hb d_ES_init_143 rfl (lv_at hl 0 rfl) ?_
  replace h := xb h
  obtain ⟨v1, hv, h⟩ := h
  refine xr_gr C X xc_ES (by decide) 3 (by decide) (by decide) rfl m_63 d_ES_init_144 hv ?_
  refine lv_iload_n hx hb d_ES_init_147 rfl (lv_at hl 1 rfl) ?_
  replace h := xpb h
  obtain ⟨q2, K3, hv, h⟩ := h
  refine xr_new C X xc_Client (by decide) rfl xdf_Client m_62 m_87 m_88 d_ES_init_148 (Nat.le_of_ble_eq_true rfl) (Nat.le_of_ble_eq_true rfl) hv (fun H X => ?_)
  refine lv_dup hx hb d_ES_init_151 rfl ?_
  refine lv_iload_n hx hb d_ES_init_152 rfl (lv_at hl 1 rfl) ?_
  replace h := xb h
  obtain ⟨K4, hv, h⟩ := h
  refine xr_kv (va_runI (As := [.int (2 : Int32)]) (rest := [.ref q2, .int (2 : Int32), va_rf v1]) C.1 (kc_Client_init l E hv) (cwI 1 C.1.2.2.2.2 (xw_in m_90) rfl rfl rfl (C.1.2.2.2.2 _ m_88) (C.1.2.2.2.2 _ m_89) (C.1.2.2.2.2 _ m_91) rfl ky_Client_init ⟨(Nat.le_of_ble_eq_true rfl), (Nat.le_of_ble_eq_true rfl)⟩) (xr_pS C X) rfl rfl hl.1 rfl (lv_room (by simp [xr_cat, xr_c_i, xr_c_a, xr_c_l])) d_ES_init_153 ⟨(Nat.le_of_ble_eq_true rfl), (Nat.le_of_ble_eq_true rfl)⟩) X (fun H locs X => ?_)
  replace h := xb h
  obtain ⟨a6, rfl, h⟩ := h
  replace h := xb h
  obtain ⟨K5, hv, h⟩ := h
  refine xr_aast (v := (some q2)) C X 5 11 (by decide) (by decide) rfl rfl rfl d_ES_init_156 hv (fun H locs X => ?_)
  refine lv_iinc (k := 1) (v := (3 : Int32)) hx hb d_ES_init_157 hl rfl (by decide +kernel) (by decide) rfl (fun ls hl => ?_)
  have hl : lv_has ls 2 [(1, .int (3 : Int32)), (0, .ref th)] := hl
  refine lv_goto (tgt := 138) hx hb d_ES_init_160 (by decide +kernel) ?_
  exact kw_ES_init_138003 (th := th) C hlk hr hin  X (lv_sub hl [1, 0] rfl) h
set_option maxHeartbeats 4000000 in
set_option maxRecDepth 100000 in
theorem kw_ES_init_138001 {th : Nat} (C : xx_C p m c b_ES_init 2 s args Rn_ES E) (hlk : meth.locks = false) (hr : meth.sig.returnType = none) (hin : meth.name = "<init>") (X : xx_S E K M s H locs) (hl : lv_has ls 2 [(0, .ref th), (1, .int (1 : Int32))]) (h : kf_ES_init_138001 K th = some K') : W p l e { frames := 3, cells := 62, slots := 971, locals := 61 } s m args below meth c H locs 52 897 (MQ below (xq_v E K' M) args s 62 971 (xe_A E)) (F0 m 138 ls []) := by
  have hx := C.1.1
  have hb := C.1.2.1
  unfold kf_ES_init_138001 at h
  refine lv_iload_n hx hb d_ES_init_138 rfl (lv_at hl 1 rfl) ?_
  refine lv_iconst hx hb d_ES_init_139 kn_i_3 ?_
  refine lv_icmp_ge (tgt := 163) hx hb d_ES_init_140 (by decide +kernel) (fun hc => absurd hc (by decide +kernel)) (fun _ => ?_)
  refine lv_aload_n hx hb d_ES_init_143 rfl (lv_at hl 0 rfl) ?_
  replace h := xb h
  obtain ⟨v1, hv, h⟩ := h
  refine xr_gr C X xc_ES (by decide) 3 (by decide) (by decide) rfl m_63 d_ES_init_144 hv ?_
  refine lv_iload_n hx hb d_ES_init_147 rfl (lv_at hl 1 rfl) ?_
  replace h := xpb h
  obtain ⟨q2, K3, hv, h⟩ := h
  refine xr_new C X xc_Client (by decide) rfl xdf_Client m_62 m_87 m_88 d_ES_init_148 (Nat.le_of_ble_eq_true rfl) (Nat.le_of_ble_eq_true rfl) hv (fun H X => ?_)
  refine lv_dup hx hb d_ES_init_151 rfl ?_
  refine lv_iload_n hx hb d_ES_init_152 rfl (lv_at hl 1 rfl) ?_
  replace h := xb h
  obtain ⟨K4, hv, h⟩ := h
  refine xr_kv (va_runI (As := [.int (1 : Int32)]) (rest := [.ref q2, .int (1 : Int32), va_rf v1]) C.1 (kc_Client_init l E hv) (cwI 1 C.1.2.2.2.2 (xw_in m_90) rfl rfl rfl (C.1.2.2.2.2 _ m_88) (C.1.2.2.2.2 _ m_89) (C.1.2.2.2.2 _ m_91) rfl ky_Client_init ⟨(Nat.le_of_ble_eq_true rfl), (Nat.le_of_ble_eq_true rfl)⟩) (xr_pS C X) rfl rfl hl.1 rfl (lv_room (by simp [xr_cat, xr_c_i, xr_c_a, xr_c_l])) d_ES_init_153 ⟨(Nat.le_of_ble_eq_true rfl), (Nat.le_of_ble_eq_true rfl)⟩) X (fun H locs X => ?_)
  replace h := xb h
  obtain ⟨a6, rfl, h⟩ := h
  replace h := xb h
  obtain ⟨K5, hv, h⟩ := h
  refine xr_aast (v := (some q2)) C X 5 11 (by decide) (by decide) rfl rfl rfl d_ES_init_156 hv (fun H locs X => ?_)
  refine lv_iinc (k := 1) (v := (2 : Int32)) hx hb d_ES_init_157 hl rfl (by decide +kernel) (by decide) rfl (fun ls hl => ?_)
  have hl : lv_has ls 2 [(1, .int (2 : Int32)), (0, .ref th)] := hl
  refine lv_goto (tgt := 138) hx hb d_ES_init_160 (by decide +kernel) ?_
  exact kw_ES_init_138002 (th := th) C hlk hr hin  X (lv_sub hl [1, 0] rfl) h
set_option maxHeartbeats 4000000 in
set_option maxRecDepth 100000 in
theorem kw_ES_init_138000 {th : Nat} (C : xx_C p m c b_ES_init 2 s args Rn_ES E) (hlk : meth.locks = false) (hr : meth.sig.returnType = none) (hin : meth.name = "<init>") (X : xx_S E K M s H locs) (hl : lv_has ls 2 [(0, .ref th), (1, .int (0 : Int32))]) (h : kf_ES_init_138000 K th = some K') : W p l e { frames := 3, cells := 62, slots := 971, locals := 61 } s m args below meth c H locs 49 878 (MQ below (xq_v E K' M) args s 62 971 (xe_A E)) (F0 m 138 ls []) := by
  have hx := C.1.1
  have hb := C.1.2.1
  unfold kf_ES_init_138000 at h
  refine lv_iload_n hx hb d_ES_init_138 rfl (lv_at hl 1 rfl) ?_
  refine lv_iconst hx hb d_ES_init_139 kn_i_3 ?_
  refine lv_icmp_ge (tgt := 163) hx hb d_ES_init_140 (by decide +kernel) (fun hc => absurd hc (by decide +kernel)) (fun _ => ?_)
  refine lv_aload_n hx hb d_ES_init_143 rfl (lv_at hl 0 rfl) ?_
  replace h := xb h
  obtain ⟨v1, hv, h⟩ := h
  refine xr_gr C X xc_ES (by decide) 3 (by decide) (by decide) rfl m_63 d_ES_init_144 hv ?_
  refine lv_iload_n hx hb d_ES_init_147 rfl (lv_at hl 1 rfl) ?_
  replace h := xpb h
  obtain ⟨q2, K3, hv, h⟩ := h
  refine xr_new C X xc_Client (by decide) rfl xdf_Client m_62 m_87 m_88 d_ES_init_148 (Nat.le_of_ble_eq_true rfl) (Nat.le_of_ble_eq_true rfl) hv (fun H X => ?_)
  refine lv_dup hx hb d_ES_init_151 rfl ?_
  refine lv_iload_n hx hb d_ES_init_152 rfl (lv_at hl 1 rfl) ?_
  replace h := xb h
  obtain ⟨K4, hv, h⟩ := h
  refine xr_kv (va_runI (As := [.int (0 : Int32)]) (rest := [.ref q2, .int (0 : Int32), va_rf v1]) C.1 (kc_Client_init l E hv) (cwI 1 C.1.2.2.2.2 (xw_in m_90) rfl rfl rfl (C.1.2.2.2.2 _ m_88) (C.1.2.2.2.2 _ m_89) (C.1.2.2.2.2 _ m_91) rfl ky_Client_init ⟨(Nat.le_of_ble_eq_true rfl), (Nat.le_of_ble_eq_true rfl)⟩) (xr_pS C X) rfl rfl hl.1 rfl (lv_room (by simp [xr_cat, xr_c_i, xr_c_a, xr_c_l])) d_ES_init_153 ⟨(Nat.le_of_ble_eq_true rfl), (Nat.le_of_ble_eq_true rfl)⟩) X (fun H locs X => ?_)
  replace h := xb h
  obtain ⟨a6, rfl, h⟩ := h
  replace h := xb h
  obtain ⟨K5, hv, h⟩ := h
  refine xr_aast (v := (some q2)) C X 5 11 (by decide) (by decide) rfl rfl rfl d_ES_init_156 hv (fun H locs X => ?_)
  refine lv_iinc (k := 1) (v := (1 : Int32)) hx hb d_ES_init_157 hl rfl (by decide +kernel) (by decide) rfl (fun ls hl => ?_)
  have hl : lv_has ls 2 [(1, .int (1 : Int32)), (0, .ref th)] := hl
  refine lv_goto (tgt := 138) hx hb d_ES_init_160 (by decide +kernel) ?_
  exact kw_ES_init_138001 (th := th) C hlk hr hin  X (lv_sub hl [1, 0] rfl) h
set_option maxHeartbeats 4000000 in
set_option maxRecDepth 100000 in
theorem kw_ES_init_111002 {th : Nat} (C : xx_C p m c b_ES_init 2 s args Rn_ES E) (hlk : meth.locks = false) (hr : meth.sig.returnType = none) (hin : meth.name = "<init>") (X : xx_S E K M s H locs) (hl : lv_has ls 2 [(0, .ref th), (1, .int (2 : Int32))]) (h : kf_ES_init_111002 K th = some K') : W p l e { frames := 3, cells := 62, slots := 971, locals := 61 } s m args below meth c H locs 49 878 (MQ below (xq_v E K' M) args s 62 971 (xe_A E)) (F0 m 111 ls []) := by
  have hx := C.1.1
  have hb := C.1.2.1
  unfold kf_ES_init_111002 at h
  refine lv_iload_n hx hb d_ES_init_111 rfl (lv_at hl 1 rfl) ?_
  refine lv_iconst hx hb d_ES_init_112 kn_i_2 ?_
  refine lv_icmp_ge (tgt := 136) hx hb d_ES_init_113 (by decide +kernel) (fun _ => ?_) (fun hc => absurd hc (by decide +kernel))
  refine lv_iconst hx hb d_ES_init_136 kn_i_0 ?_
  refine lv_istore_n hx hb d_ES_init_137 rfl hl (by decide) rfl (fun ls hl => ?_)
  have hl : lv_has ls 2 [(1, .int (0 : Int32)), (0, .ref th)] := hl
  exact kw_ES_init_138000 (th := th) C hlk hr hin  X (lv_sub hl [1, 0] rfl) h
set_option maxHeartbeats 4000000 in
set_option maxRecDepth 100000 in
theorem kw_ES_init_111001 {th : Nat} (C : xx_C p m c b_ES_init 2 s args Rn_ES E) (hlk : meth.locks = false) (hr : meth.sig.returnType = none) (hin : meth.name = "<init>") (X : xx_S E K M s H locs) (hl : lv_has ls 2 [(0, .ref th), (1, .int (1 : Int32))]) (h : kf_ES_init_111001 K th = some K') : W p l e { frames := 3, cells := 62, slots := 971, locals := 61 } s m args below meth c H locs 47 772 (MQ below (xq_v E K' M) args s 62 971 (xe_A E)) (F0 m 111 ls []) := by
  have hx := C.1.1
  have hb := C.1.2.1
  unfold kf_ES_init_111001 at h
  refine lv_iload_n hx hb d_ES_init_111 rfl (lv_at hl 1 rfl) ?_
  refine lv_iconst hx hb d_ES_init_112 kn_i_2 ?_
  refine lv_icmp_ge (tgt := 136) hx hb d_ES_init_113 (by decide +kernel) (fun hc => absurd hc (by decide +kernel)) (fun _ => ?_)
  refine lv_aload_n hx hb d_ES_init_116 rfl (lv_at hl 0 rfl) ?_
  replace h := xb h
  obtain ⟨v1, hv, h⟩ := h
  refine xr_gr C X xc_ES (by decide) 2 (by decide) (by decide) rfl m_61 d_ES_init_117 hv ?_
  refine lv_iload_n hx hb d_ES_init_120 rfl (lv_at hl 1 rfl) ?_
  replace h := xpb h
  obtain ⟨q2, K3, hv, h⟩ := h
  refine xr_new C X xc_Storage (by decide) rfl xdf_Storage m_60 m_82 m_83 d_ES_init_121 (Nat.le_of_ble_eq_true rfl) (Nat.le_of_ble_eq_true rfl) hv (fun H X => ?_)
  refine lv_dup hx hb d_ES_init_124 rfl ?_
  refine lv_iload_n hx hb d_ES_init_125 rfl (lv_at hl 1 rfl) ?_
  replace h := xb h
  obtain ⟨K4, hv, h⟩ := h
  refine xr_kv (va_runI (As := [.int (1 : Int32)]) (rest := [.ref q2, .int (1 : Int32), va_rf v1]) C.1 (kc_Storage_init l E hv) (cwI 1 C.1.2.2.2.2 (xw_in m_85) rfl rfl rfl (C.1.2.2.2.2 _ m_83) (C.1.2.2.2.2 _ m_84) (C.1.2.2.2.2 _ m_86) rfl ky_Storage_init ⟨(Nat.le_of_ble_eq_true rfl), (Nat.le_of_ble_eq_true rfl)⟩) (xr_pS C X) rfl rfl hl.1 rfl (lv_room (by simp [xr_cat, xr_c_i, xr_c_a, xr_c_l])) d_ES_init_126 ⟨(Nat.le_of_ble_eq_true rfl), (Nat.le_of_ble_eq_true rfl)⟩) X (fun H locs X => ?_)
  replace h := xb h
  obtain ⟨a6, rfl, h⟩ := h
  replace h := xb h
  obtain ⟨K5, hv, h⟩ := h
  refine xr_aast (v := (some q2)) C X 4 10 (by decide) (by decide) rfl rfl rfl d_ES_init_129 hv (fun H locs X => ?_)
  refine lv_iinc (k := 1) (v := (2 : Int32)) hx hb d_ES_init_130 hl rfl (by decide +kernel) (by decide) rfl (fun ls hl => ?_)
  have hl : lv_has ls 2 [(1, .int (2 : Int32)), (0, .ref th)] := hl
  refine lv_goto (tgt := 111) hx hb d_ES_init_133 (by decide +kernel) ?_
  exact kw_ES_init_111002 (th := th) C hlk hr hin  X (lv_sub hl [1, 0] rfl) h
set_option maxHeartbeats 4000000 in
set_option maxRecDepth 100000 in
theorem kw_ES_init_111000 {th : Nat} (C : xx_C p m c b_ES_init 2 s args Rn_ES E) (hlk : meth.locks = false) (hr : meth.sig.returnType = none) (hin : meth.name = "<init>") (X : xx_S E K M s H locs) (hl : lv_has ls 2 [(0, .ref th), (1, .int (0 : Int32))]) (h : kf_ES_init_111000 K th = some K') : W p l e { frames := 3, cells := 62, slots := 971, locals := 61 } s m args below meth c H locs 45 666 (MQ below (xq_v E K' M) args s 62 971 (xe_A E)) (F0 m 111 ls []) := by
  have hx := C.1.1
  have hb := C.1.2.1
  unfold kf_ES_init_111000 at h
  refine lv_iload_n hx hb d_ES_init_111 rfl (lv_at hl 1 rfl) ?_
  refine lv_iconst hx hb d_ES_init_112 kn_i_2 ?_
  refine lv_icmp_ge (tgt := 136) hx hb d_ES_init_113 (by decide +kernel) (fun hc => absurd hc (by decide +kernel)) (fun _ => ?_)
  refine lv_aload_n hx hb d_ES_init_116 rfl (lv_at hl 0 rfl) ?_
  replace h := xb h
  obtain ⟨v1, hv, h⟩ := h
  refine xr_gr C X xc_ES (by decide) 2 (by decide) (by decide) rfl m_61 d_ES_init_117 hv ?_
  refine lv_iload_n hx hb d_ES_init_120 rfl (lv_at hl 1 rfl) ?_
  replace h := xpb h
  obtain ⟨q2, K3, hv, h⟩ := h
  refine xr_new C X xc_Storage (by decide) rfl xdf_Storage m_60 m_82 m_83 d_ES_init_121 (Nat.le_of_ble_eq_true rfl) (Nat.le_of_ble_eq_true rfl) hv (fun H X => ?_)
  refine lv_dup hx hb d_ES_init_124 rfl ?_
  refine lv_iload_n hx hb d_ES_init_125 rfl (lv_at hl 1 rfl) ?_
  replace h := xb h
  obtain ⟨K4, hv, h⟩ := h
  refine xr_kv (va_runI (As := [.int (0 : Int32)]) (rest := [.ref q2, .int (0 : Int32), va_rf v1]) C.1 (kc_Storage_init l E hv) (cwI 1 C.1.2.2.2.2 (xw_in m_85) rfl rfl rfl (C.1.2.2.2.2 _ m_83) (C.1.2.2.2.2 _ m_84) (C.1.2.2.2.2 _ m_86) rfl ky_Storage_init ⟨(Nat.le_of_ble_eq_true rfl), (Nat.le_of_ble_eq_true rfl)⟩) (xr_pS C X) rfl rfl hl.1 rfl (lv_room (by simp [xr_cat, xr_c_i, xr_c_a, xr_c_l])) d_ES_init_126 ⟨(Nat.le_of_ble_eq_true rfl), (Nat.le_of_ble_eq_true rfl)⟩) X (fun H locs X => ?_)
  replace h := xb h
  obtain ⟨a6, rfl, h⟩ := h
  replace h := xb h
  obtain ⟨K5, hv, h⟩ := h
  refine xr_aast (v := (some q2)) C X 4 10 (by decide) (by decide) rfl rfl rfl d_ES_init_129 hv (fun H locs X => ?_)
  refine lv_iinc (k := 1) (v := (1 : Int32)) hx hb d_ES_init_130 hl rfl (by decide +kernel) (by decide) rfl (fun ls hl => ?_)
  have hl : lv_has ls 2 [(1, .int (1 : Int32)), (0, .ref th)] := hl
  refine lv_goto (tgt := 111) hx hb d_ES_init_133 (by decide +kernel) ?_
  exact kw_ES_init_111001 (th := th) C hlk hr hin  X (lv_sub hl [1, 0] rfl) h
set_option maxHeartbeats 4000000 in
set_option maxRecDepth 100000 in
theorem kw_ES_init_84003 {th : Nat} (C : xx_C p m c b_ES_init 2 s args Rn_ES E) (hlk : meth.locks = false) (hr : meth.sig.returnType = none) (hin : meth.name = "<init>") (X : xx_S E K M s H locs) (hl : lv_has ls 2 [(0, .ref th), (1, .int (3 : Int32))]) (h : kf_ES_init_84003 K th = some K') : W p l e { frames := 3, cells := 62, slots := 971, locals := 61 } s m args below meth c H locs 45 666 (MQ below (xq_v E K' M) args s 62 971 (xe_A E)) (F0 m 84 ls []) := by
  have hx := C.1.1
  have hb := C.1.2.1
  unfold kf_ES_init_84003 at h
  refine lv_iload_n hx hb d_ES_init_84 rfl (lv_at hl 1 rfl) ?_
  refine lv_iconst hx hb d_ES_init_85 kn_i_3 ?_
  refine lv_icmp_ge (tgt := 109) hx hb d_ES_init_86 (by decide +kernel) (fun _ => ?_) (fun hc => absurd hc (by decide +kernel))
  refine lv_iconst hx hb d_ES_init_109 kn_i_0 ?_
  refine lv_istore_n hx hb d_ES_init_110 rfl hl (by decide) rfl (fun ls hl => ?_)
  have hl : lv_has ls 2 [(1, .int (0 : Int32)), (0, .ref th)] := hl
  exact kw_ES_init_111000 (th := th) C hlk hr hin  X (lv_sub hl [1, 0] rfl) h
set_option maxHeartbeats 4000000 in
set_option maxRecDepth 100000 in
theorem kw_ES_init_84002 {th : Nat} (C : xx_C p m c b_ES_init 2 s args Rn_ES E) (hlk : meth.locks = false) (hr : meth.sig.returnType = none) (hin : meth.name = "<init>") (X : xx_S E K M s H locs) (hl : lv_has ls 2 [(0, .ref th), (1, .int (2 : Int32))]) (h : kf_ES_init_84002 K th = some K') : W p l e { frames := 3, cells := 62, slots := 971, locals := 61 } s m args below meth c H locs 42 549 (MQ below (xq_v E K' M) args s 62 971 (xe_A E)) (F0 m 84 ls []) := by
  have hx := C.1.1
  have hb := C.1.2.1
  unfold kf_ES_init_84002 at h
  refine lv_iload_n hx hb d_ES_init_84 rfl (lv_at hl 1 rfl) ?_
  refine lv_iconst hx hb d_ES_init_85 kn_i_3 ?_
  refine lv_icmp_ge (tgt := 109) hx hb d_ES_init_86 (by decide +kernel) (fun hc => absurd hc (by decide +kernel)) (fun _ => ?_)
  refine lv_aload_n hx hb d_ES_init_89 rfl (lv_at hl 0 rfl) ?_
  replace h := xb h
  obtain ⟨v1, hv, h⟩ := h
  refine xr_gr C X xc_ES (by decide) 1 (by decide) (by decide) rfl m_59 d_ES_init_90 hv ?_
  refine lv_iload_n hx hb d_ES_init_93 rfl (lv_at hl 1 rfl) ?_
  replace h := xpb h
  obtain ⟨q2, K3, hv, h⟩ := h
  refine xr_new C X xc_Log (by decide) rfl xdf_Log m_58 m_77 m_78 d_ES_init_94 (Nat.le_of_ble_eq_true rfl) (Nat.le_of_ble_eq_true rfl) hv (fun H X => ?_)
  refine lv_dup hx hb d_ES_init_97 rfl ?_
  refine lv_iload_n hx hb d_ES_init_98 rfl (lv_at hl 1 rfl) ?_
  replace h := xb h
  obtain ⟨K4, hv, h⟩ := h
  refine xr_kv (va_runI (As := [.int (2 : Int32)]) (rest := [.ref q2, .int (2 : Int32), va_rf v1]) C.1 (kc_Log_init l E hv) (cwI 1 C.1.2.2.2.2 (xw_in m_80) rfl rfl rfl (C.1.2.2.2.2 _ m_78) (C.1.2.2.2.2 _ m_79) (C.1.2.2.2.2 _ m_81) rfl ky_Log_init ⟨(Nat.le_of_ble_eq_true rfl), (Nat.le_of_ble_eq_true rfl)⟩) (xr_pS C X) rfl rfl hl.1 rfl (lv_room (by simp [xr_cat, xr_c_i, xr_c_a, xr_c_l])) d_ES_init_99 ⟨(Nat.le_of_ble_eq_true rfl), (Nat.le_of_ble_eq_true rfl)⟩) X (fun H locs X => ?_)
  replace h := xb h
  obtain ⟨a6, rfl, h⟩ := h
  replace h := xb h
  obtain ⟨K5, hv, h⟩ := h
  refine xr_aast (v := (some q2)) C X 3 9 (by decide) (by decide) rfl rfl rfl d_ES_init_102 hv (fun H locs X => ?_)
  refine lv_iinc (k := 1) (v := (3 : Int32)) hx hb d_ES_init_103 hl rfl (by decide +kernel) (by decide) rfl (fun ls hl => ?_)
  have hl : lv_has ls 2 [(1, .int (3 : Int32)), (0, .ref th)] := hl
  refine lv_goto (tgt := 84) hx hb d_ES_init_106 (by decide +kernel) ?_
  exact kw_ES_init_84003 (th := th) C hlk hr hin  X (lv_sub hl [1, 0] rfl) h
set_option maxHeartbeats 4000000 in
set_option maxRecDepth 100000 in
theorem kw_ES_init_84001 {th : Nat} (C : xx_C p m c b_ES_init 2 s args Rn_ES E) (hlk : meth.locks = false) (hr : meth.sig.returnType = none) (hin : meth.name = "<init>") (X : xx_S E K M s H locs) (hl : lv_has ls 2 [(0, .ref th), (1, .int (1 : Int32))]) (h : kf_ES_init_84001 K th = some K') : W p l e { frames := 3, cells := 62, slots := 971, locals := 61 } s m args below meth c H locs 39 432 (MQ below (xq_v E K' M) args s 62 971 (xe_A E)) (F0 m 84 ls []) := by
  have hx := C.1.1
  have hb := C.1.2.1
  unfold kf_ES_init_84001 at h
  refine lv_iload_n hx hb d_ES_init_84 rfl (lv_at hl 1 rfl) ?_
  refine lv_iconst hx hb d_ES_init_85 kn_i_3 ?_
  refine lv_icmp_ge (tgt := 109) hx hb d_ES_init_86 (by decide +kernel) (fun hc => absurd hc (by decide +kernel)) (fun _ => ?_)
  refine lv_aload_n hx hb d_ES_init_89 rfl (lv_at hl 0 rfl) ?_
  replace h := xb h
  obtain ⟨v1, hv, h⟩ := h
  refine xr_gr C X xc_ES (by decide) 1 (by decide) (by decide) rfl m_59 d_ES_init_90 hv ?_
  refine lv_iload_n hx hb d_ES_init_93 rfl (lv_at hl 1 rfl) ?_
  replace h := xpb h
  obtain ⟨q2, K3, hv, h⟩ := h
  refine xr_new C X xc_Log (by decide) rfl xdf_Log m_58 m_77 m_78 d_ES_init_94 (Nat.le_of_ble_eq_true rfl) (Nat.le_of_ble_eq_true rfl) hv (fun H X => ?_)
  refine lv_dup hx hb d_ES_init_97 rfl ?_
  refine lv_iload_n hx hb d_ES_init_98 rfl (lv_at hl 1 rfl) ?_
  replace h := xb h
  obtain ⟨K4, hv, h⟩ := h
  refine xr_kv (va_runI (As := [.int (1 : Int32)]) (rest := [.ref q2, .int (1 : Int32), va_rf v1]) C.1 (kc_Log_init l E hv) (cwI 1 C.1.2.2.2.2 (xw_in m_80) rfl rfl rfl (C.1.2.2.2.2 _ m_78) (C.1.2.2.2.2 _ m_79) (C.1.2.2.2.2 _ m_81) rfl ky_Log_init ⟨(Nat.le_of_ble_eq_true rfl), (Nat.le_of_ble_eq_true rfl)⟩) (xr_pS C X) rfl rfl hl.1 rfl (lv_room (by simp [xr_cat, xr_c_i, xr_c_a, xr_c_l])) d_ES_init_99 ⟨(Nat.le_of_ble_eq_true rfl), (Nat.le_of_ble_eq_true rfl)⟩) X (fun H locs X => ?_)
  replace h := xb h
  obtain ⟨a6, rfl, h⟩ := h
  replace h := xb h
  obtain ⟨K5, hv, h⟩ := h
  refine xr_aast (v := (some q2)) C X 3 9 (by decide) (by decide) rfl rfl rfl d_ES_init_102 hv (fun H locs X => ?_)
  refine lv_iinc (k := 1) (v := (2 : Int32)) hx hb d_ES_init_103 hl rfl (by decide +kernel) (by decide) rfl (fun ls hl => ?_)
  have hl : lv_has ls 2 [(1, .int (2 : Int32)), (0, .ref th)] := hl
  refine lv_goto (tgt := 84) hx hb d_ES_init_106 (by decide +kernel) ?_
  exact kw_ES_init_84002 (th := th) C hlk hr hin  X (lv_sub hl [1, 0] rfl) h
set_option maxHeartbeats 4000000 in
set_option maxRecDepth 100000 in
theorem kw_ES_init_84000 {th : Nat} (C : xx_C p m c b_ES_init 2 s args Rn_ES E) (hlk : meth.locks = false) (hr : meth.sig.returnType = none) (hin : meth.name = "<init>") (X : xx_S E K M s H locs) (hl : lv_has ls 2 [(0, .ref th), (1, .int (0 : Int32))]) (h : kf_ES_init_84000 K th = some K') : W p l e { frames := 3, cells := 62, slots := 971, locals := 61 } s m args below meth c H locs 36 315 (MQ below (xq_v E K' M) args s 62 971 (xe_A E)) (F0 m 84 ls []) := by
  have hx := C.1.1
  have hb := C.1.2.1
  unfold kf_ES_init_84000 at h
  refine lv_iload_n hx hb d_ES_init_84 rfl (lv_at hl 1 rfl) ?_
  refine lv_iconst hx hb d_ES_init_85 kn_i_3 ?_
  refine lv_icmp_ge (tgt := 109) hx hb d_ES_init_86 (by decide +kernel) (fun hc => absurd hc (by decide +kernel)) (fun _ => ?_)
  refine lv_aload_n hx hb d_ES_init_89 rfl (lv_at hl 0 rfl) ?_
  replace h := xb h
  obtain ⟨v1, hv, h⟩ := h
  refine xr_gr C X xc_ES (by decide) 1 (by decide) (by decide) rfl m_59 d_ES_init_90 hv ?_
  refine lv_iload_n hx hb d_ES_init_93 rfl (lv_at hl 1 rfl) ?_
  replace h := xpb h
  obtain ⟨q2, K3, hv, h⟩ := h
  refine xr_new C X xc_Log (by decide) rfl xdf_Log m_58 m_77 m_78 d_ES_init_94 (Nat.le_of_ble_eq_true rfl) (Nat.le_of_ble_eq_true rfl) hv (fun H X => ?_)
  refine lv_dup hx hb d_ES_init_97 rfl ?_
  refine lv_iload_n hx hb d_ES_init_98 rfl (lv_at hl 1 rfl) ?_
  replace h := xb h
  obtain ⟨K4, hv, h⟩ := h
  refine xr_kv (va_runI (As := [.int (0 : Int32)]) (rest := [.ref q2, .int (0 : Int32), va_rf v1]) C.1 (kc_Log_init l E hv) (cwI 1 C.1.2.2.2.2 (xw_in m_80) rfl rfl rfl (C.1.2.2.2.2 _ m_78) (C.1.2.2.2.2 _ m_79) (C.1.2.2.2.2 _ m_81) rfl ky_Log_init ⟨(Nat.le_of_ble_eq_true rfl), (Nat.le_of_ble_eq_true rfl)⟩) (xr_pS C X) rfl rfl hl.1 rfl (lv_room (by simp [xr_cat, xr_c_i, xr_c_a, xr_c_l])) d_ES_init_99 ⟨(Nat.le_of_ble_eq_true rfl), (Nat.le_of_ble_eq_true rfl)⟩) X (fun H locs X => ?_)
  replace h := xb h
  obtain ⟨a6, rfl, h⟩ := h
  replace h := xb h
  obtain ⟨K5, hv, h⟩ := h
  refine xr_aast (v := (some q2)) C X 3 9 (by decide) (by decide) rfl rfl rfl d_ES_init_102 hv (fun H locs X => ?_)
  refine lv_iinc (k := 1) (v := (1 : Int32)) hx hb d_ES_init_103 hl rfl (by decide +kernel) (by decide) rfl (fun ls hl => ?_)
  have hl : lv_has ls 2 [(1, .int (1 : Int32)), (0, .ref th)] := hl
  refine lv_goto (tgt := 84) hx hb d_ES_init_106 (by decide +kernel) ?_
  exact kw_ES_init_84001 (th := th) C hlk hr hin  X (lv_sub hl [1, 0] rfl) h
set_option maxHeartbeats 4000000 in
set_option maxRecDepth 100000 in
theorem kw_ES_init_58003 {th : Nat} (C : xx_C p m c b_ES_init 2 s args Rn_ES E) (hlk : meth.locks = false) (hr : meth.sig.returnType = none) (hin : meth.name = "<init>") (X : xx_S E K M s H locs) (hl : lv_has ls 2 [(0, .ref th), (1, .int (3 : Int32))]) (h : kf_ES_init_58003 K th = some K') : W p l e { frames := 3, cells := 62, slots := 971, locals := 61 } s m args below meth c H locs 36 315 (MQ below (xq_v E K' M) args s 62 971 (xe_A E)) (F0 m 58 ls []) := by
  have hx := C.1.1
  have hb := C.1.2.1
  unfold kf_ES_init_58003 at h
  refine lv_iload_n hx hb d_ES_init_58 rfl (lv_at hl 1 rfl) ?_
  refine lv_iconst hx hb d_ES_init_59 kn_i_3 ?_
  refine lv_icmp_ge (tgt := 82) hx hb d_ES_init_60 (by decide +kernel) (fun _ => ?_) (fun hc => absurd hc (by decide +kernel))
  refine lv_iconst hx hb d_ES_init_82 kn_i_0 ?_
  refine lv_istore_n hx hb d_ES_init_83 rfl hl (by decide) rfl (fun ls hl => ?_)
  have hl : lv_has ls 2 [(1, .int (0 : Int32)), (0, .ref th)] := hl
  exact kw_ES_init_84000 (th := th) C hlk hr hin  X (lv_sub hl [1, 0] rfl) h
set_option maxHeartbeats 4000000 in
set_option maxRecDepth 100000 in
theorem kw_ES_init_58002 {th : Nat} (C : xx_C p m c b_ES_init 2 s args Rn_ES E) (hlk : meth.locks = false) (hr : meth.sig.returnType = none) (hin : meth.name = "<init>") (X : xx_S E K M s H locs) (hl : lv_has ls 2 [(0, .ref th), (1, .int (2 : Int32))]) (h : kf_ES_init_58002 K th = some K') : W p l e { frames := 3, cells := 62, slots := 971, locals := 61 } s m args below meth c H locs 35 313 (MQ below (xq_v E K' M) args s 62 971 (xe_A E)) (F0 m 58 ls []) := by
  have hx := C.1.1
  have hb := C.1.2.1
  unfold kf_ES_init_58002 at h
  refine lv_iload_n hx hb d_ES_init_58 rfl (lv_at hl 1 rfl) ?_
  refine lv_iconst hx hb d_ES_init_59 kn_i_3 ?_
  refine lv_icmp_ge (tgt := 82) hx hb d_ES_init_60 (by decide +kernel) (fun hc => absurd hc (by decide +kernel)) (fun _ => ?_)
  refine lv_aload_n hx hb d_ES_init_63 rfl (lv_at hl 0 rfl) ?_
  replace h := xb h
  obtain ⟨v1, hv, h⟩ := h
  refine xr_gr C X xc_ES (by decide) 0 (by decide) (by decide) rfl m_57 d_ES_init_64 hv ?_
  refine lv_iload_n hx hb d_ES_init_67 rfl (lv_at hl 1 rfl) ?_
  replace h := xpb h
  obtain ⟨q2, K3, hv, h⟩ := h
  refine xr_new C X xc_Coordinator (by decide) rfl xdf_Coordinator m_56 m_73 m_74 d_ES_init_68 (Nat.le_of_ble_eq_true rfl) (Nat.le_of_ble_eq_true rfl) hv (fun H X => ?_)
  refine lv_dup hx hb d_ES_init_71 rfl ?_
  replace h := xb h
  obtain ⟨K4, hv, h⟩ := h
  refine xr_kv (va_runIN (As := []) (rest := [.ref q2, .int (2 : Int32), va_rf v1]) C.1 (kc_Coordinator_init l E hv) ⟨va_cnB 0 C.1.2.2.2.2 (xw_in m_75) rfl rfl rfl (C.2.2.1 (Rn_ES, 46, y_Coordinator_init, "EpochStore") (List.mem_of_getElem? (i := 1) rfl)) (C.1.2.2.2.2 _ m_74) ky_Coordinator_init ⟨(Nat.le_of_ble_eq_true rfl), (Nat.le_of_ble_eq_true rfl)⟩, rfl, C.1.2.2.2.2 _ m_76⟩ (xr_pS C X) rfl rfl hl.1 rfl (lv_room (by simp [xr_cat, xr_c_i, xr_c_a, xr_c_l])) d_ES_init_72 ⟨(Nat.le_of_ble_eq_true rfl), (Nat.le_of_ble_eq_true rfl)⟩) X (fun H locs X => ?_)
  replace h := xb h
  obtain ⟨a6, rfl, h⟩ := h
  replace h := xb h
  obtain ⟨K5, hv, h⟩ := h
  refine xr_aast (v := (some q2)) C X 2 1 (by decide) (by decide) rfl rfl rfl d_ES_init_75 hv (fun H locs X => ?_)
  refine lv_iinc (k := 1) (v := (3 : Int32)) hx hb d_ES_init_76 hl rfl (by decide +kernel) (by decide) rfl (fun ls hl => ?_)
  have hl : lv_has ls 2 [(1, .int (3 : Int32)), (0, .ref th)] := hl
  refine lv_goto (tgt := 58) hx hb d_ES_init_79 (by decide +kernel) ?_
  exact kw_ES_init_58003 (th := th) C hlk hr hin  X (lv_sub hl [1, 0] rfl) h
set_option maxHeartbeats 4000000 in
set_option maxRecDepth 100000 in
theorem kw_ES_init_58001 {th : Nat} (C : xx_C p m c b_ES_init 2 s args Rn_ES E) (hlk : meth.locks = false) (hr : meth.sig.returnType = none) (hin : meth.name = "<init>") (X : xx_S E K M s H locs) (hl : lv_has ls 2 [(0, .ref th), (1, .int (1 : Int32))]) (h : kf_ES_init_58001 K th = some K') : W p l e { frames := 3, cells := 62, slots := 971, locals := 61 } s m args below meth c H locs 34 311 (MQ below (xq_v E K' M) args s 62 971 (xe_A E)) (F0 m 58 ls []) := by
  have hx := C.1.1
  have hb := C.1.2.1
  unfold kf_ES_init_58001 at h
  refine lv_iload_n hx hb d_ES_init_58 rfl (lv_at hl 1 rfl) ?_
  refine lv_iconst hx hb d_ES_init_59 kn_i_3 ?_
  refine lv_icmp_ge (tgt := 82) hx hb d_ES_init_60 (by decide +kernel) (fun hc => absurd hc (by decide +kernel)) (fun _ => ?_)
  refine lv_aload_n hx hb d_ES_init_63 rfl (lv_at hl 0 rfl) ?_
  replace h := xb h
  obtain ⟨v1, hv, h⟩ := h
  refine xr_gr C X xc_ES (by decide) 0 (by decide) (by decide) rfl m_57 d_ES_init_64 hv ?_
  refine lv_iload_n hx hb d_ES_init_67 rfl (lv_at hl 1 rfl) ?_
  replace h := xpb h
  obtain ⟨q2, K3, hv, h⟩ := h
  refine xr_new C X xc_Coordinator (by decide) rfl xdf_Coordinator m_56 m_73 m_74 d_ES_init_68 (Nat.le_of_ble_eq_true rfl) (Nat.le_of_ble_eq_true rfl) hv (fun H X => ?_)
  refine lv_dup hx hb d_ES_init_71 rfl ?_
  replace h := xb h
  obtain ⟨K4, hv, h⟩ := h
  refine xr_kv (va_runIN (As := []) (rest := [.ref q2, .int (1 : Int32), va_rf v1]) C.1 (kc_Coordinator_init l E hv) ⟨va_cnB 0 C.1.2.2.2.2 (xw_in m_75) rfl rfl rfl (C.2.2.1 (Rn_ES, 46, y_Coordinator_init, "EpochStore") (List.mem_of_getElem? (i := 1) rfl)) (C.1.2.2.2.2 _ m_74) ky_Coordinator_init ⟨(Nat.le_of_ble_eq_true rfl), (Nat.le_of_ble_eq_true rfl)⟩, rfl, C.1.2.2.2.2 _ m_76⟩ (xr_pS C X) rfl rfl hl.1 rfl (lv_room (by simp [xr_cat, xr_c_i, xr_c_a, xr_c_l])) d_ES_init_72 ⟨(Nat.le_of_ble_eq_true rfl), (Nat.le_of_ble_eq_true rfl)⟩) X (fun H locs X => ?_)
  replace h := xb h
  obtain ⟨a6, rfl, h⟩ := h
  replace h := xb h
  obtain ⟨K5, hv, h⟩ := h
  refine xr_aast (v := (some q2)) C X 2 1 (by decide) (by decide) rfl rfl rfl d_ES_init_75 hv (fun H locs X => ?_)
  refine lv_iinc (k := 1) (v := (2 : Int32)) hx hb d_ES_init_76 hl rfl (by decide +kernel) (by decide) rfl (fun ls hl => ?_)
  have hl : lv_has ls 2 [(1, .int (2 : Int32)), (0, .ref th)] := hl
  refine lv_goto (tgt := 58) hx hb d_ES_init_79 (by decide +kernel) ?_
  exact kw_ES_init_58002 (th := th) C hlk hr hin  X (lv_sub hl [1, 0] rfl) h
set_option maxHeartbeats 4000000 in
set_option maxRecDepth 100000 in
theorem kw_ES_init_58000 {th : Nat} (C : xx_C p m c b_ES_init 2 s args Rn_ES E) (hlk : meth.locks = false) (hr : meth.sig.returnType = none) (hin : meth.name = "<init>") (X : xx_S E K M s H locs) (hl : lv_has ls 2 [(0, .ref th), (1, .int (0 : Int32))]) (h : kf_ES_init_58000 K th = some K') : W p l e { frames := 3, cells := 62, slots := 971, locals := 61 } s m args below meth c H locs 33 309 (MQ below (xq_v E K' M) args s 62 971 (xe_A E)) (F0 m 58 ls []) := by
  have hx := C.1.1
  have hb := C.1.2.1
  unfold kf_ES_init_58000 at h
  refine lv_iload_n hx hb d_ES_init_58 rfl (lv_at hl 1 rfl) ?_
  refine lv_iconst hx hb d_ES_init_59 kn_i_3 ?_
  refine lv_icmp_ge (tgt := 82) hx hb d_ES_init_60 (by decide +kernel) (fun hc => absurd hc (by decide +kernel)) (fun _ => ?_)
  refine lv_aload_n hx hb d_ES_init_63 rfl (lv_at hl 0 rfl) ?_
  replace h := xb h
  obtain ⟨v1, hv, h⟩ := h
  refine xr_gr C X xc_ES (by decide) 0 (by decide) (by decide) rfl m_57 d_ES_init_64 hv ?_
  refine lv_iload_n hx hb d_ES_init_67 rfl (lv_at hl 1 rfl) ?_
  replace h := xpb h
  obtain ⟨q2, K3, hv, h⟩ := h
  refine xr_new C X xc_Coordinator (by decide) rfl xdf_Coordinator m_56 m_73 m_74 d_ES_init_68 (Nat.le_of_ble_eq_true rfl) (Nat.le_of_ble_eq_true rfl) hv (fun H X => ?_)
  refine lv_dup hx hb d_ES_init_71 rfl ?_
  replace h := xb h
  obtain ⟨K4, hv, h⟩ := h
  refine xr_kv (va_runIN (As := []) (rest := [.ref q2, .int (0 : Int32), va_rf v1]) C.1 (kc_Coordinator_init l E hv) ⟨va_cnB 0 C.1.2.2.2.2 (xw_in m_75) rfl rfl rfl (C.2.2.1 (Rn_ES, 46, y_Coordinator_init, "EpochStore") (List.mem_of_getElem? (i := 1) rfl)) (C.1.2.2.2.2 _ m_74) ky_Coordinator_init ⟨(Nat.le_of_ble_eq_true rfl), (Nat.le_of_ble_eq_true rfl)⟩, rfl, C.1.2.2.2.2 _ m_76⟩ (xr_pS C X) rfl rfl hl.1 rfl (lv_room (by simp [xr_cat, xr_c_i, xr_c_a, xr_c_l])) d_ES_init_72 ⟨(Nat.le_of_ble_eq_true rfl), (Nat.le_of_ble_eq_true rfl)⟩) X (fun H locs X => ?_)
  replace h := xb h
  obtain ⟨a6, rfl, h⟩ := h
  replace h := xb h
  obtain ⟨K5, hv, h⟩ := h
  refine xr_aast (v := (some q2)) C X 2 1 (by decide) (by decide) rfl rfl rfl d_ES_init_75 hv (fun H locs X => ?_)
  refine lv_iinc (k := 1) (v := (1 : Int32)) hx hb d_ES_init_76 hl rfl (by decide +kernel) (by decide) rfl (fun ls hl => ?_)
  have hl : lv_has ls 2 [(1, .int (1 : Int32)), (0, .ref th)] := hl
  refine lv_goto (tgt := 58) hx hb d_ES_init_79 (by decide +kernel) ?_
  exact kw_ES_init_58001 (th := th) C hlk hr hin  X (lv_sub hl [1, 0] rfl) h
set_option maxHeartbeats 4000000 in
set_option maxRecDepth 100000 in
theorem kw_ES_init_0 {th : Nat} (C : xx_C p m c b_ES_init 2 s args Rn_ES E) (hlk : meth.locks = false) (hr : meth.sig.returnType = none) (hin : meth.name = "<init>") (X : xx_S E K M s H locs) (hl : lv_has ls 2 [(0, .ref th)]) (h : kf_ES_init_0 K th = some K') : W p l e { frames := 3, cells := 62, slots := 971, locals := 61 } s m args below meth c H locs 0 0 (MQ below (xq_v E K' M) args s 62 971 (xe_A E)) (F0 m 0 ls []) := by
  have hx := C.1.1
  have hb := C.1.2.1
  unfold kf_ES_init_0 at h
  refine lv_aload_n hx hb d_ES_init_0 rfl (lv_at hl 0 rfl) ?_
  refine W.objInit hx hb C.1.2.2.2.1 (C.1.2.2.2.2 _ m_55) (C.1.2.2.2.2 _ m_1) (C.1.2.2.2.2 _ m_2) rfl (by rw [C.1.2.2.1]; exact hl.1) rfl d_ES_init_1 (Nat.le_of_ble_eq_true rfl) (Nat.le_of_ble_eq_true rfl) ?_
  refine W.eq (g2 := F0 m 4 ls []) rfl ?_
  refine lv_aload_n hx hb d_ES_init_4 rfl (lv_at hl 0 rfl) ?_
  refine lv_iconst hx hb d_ES_init_5 kn_i_3 ?_
  replace h := xpb h
  obtain ⟨q1, K2, hv, h⟩ := h
  refine xr_newq C X 2 (N := 3) (by decide) rfl rfl m_56 (List.mem_of_getElem? (i := 0) rfl) (by decide +kernel) (by decide +kernel) (by decide +kernel) d_ES_init_6 (Nat.le_of_ble_eq_true rfl) (Nat.le_of_ble_eq_true rfl) hv (fun H X => ?_)
  replace h := xb h
  obtain ⟨K3, hv, h⟩ := h
  refine xr_prF (v := (some q1)) C X xc_ES (by decide) 0 (by decide) (by decide) rfl (Or.inr ⟨_, rfl⟩) rfl hin rfl m_57 d_ES_init_9 hv (fun H locs X => ?_)
  refine lv_aload_n hx hb d_ES_init_12 rfl (lv_at hl 0 rfl) ?_
  refine lv_iconst hx hb d_ES_init_13 kn_i_3 ?_
  replace h := xpb h
  obtain ⟨q4, K5, hv, h⟩ := h
  refine xr_newq C X 3 (N := 3) (by decide) rfl rfl m_58 (List.mem_of_getElem? (i := 1) rfl) (by decide +kernel) (by decide +kernel) (by decide +kernel) d_ES_init_14 (Nat.le_of_ble_eq_true rfl) (Nat.le_of_ble_eq_true rfl) hv (fun H X => ?_)
  replace h := xb h
  obtain ⟨K6, hv, h⟩ := h
  refine xr_prF (v := (some q4)) C X xc_ES (by decide) 1 (by decide) (by decide) rfl (Or.inr ⟨_, rfl⟩) rfl hin rfl m_59 d_ES_init_17 hv (fun H locs X => ?_)
  refine lv_aload_n hx hb d_ES_init_20 rfl (lv_at hl 0 rfl) ?_
  refine lv_iconst hx hb d_ES_init_21 kn_i_2 ?_
  replace h := xpb h
  obtain ⟨q7, K8, hv, h⟩ := h
  refine xr_newq C X 4 (N := 2) (by decide) rfl rfl m_60 (List.mem_of_getElem? (i := 2) rfl) (by decide +kernel) (by decide +kernel) (by decide +kernel) d_ES_init_22 (Nat.le_of_ble_eq_true rfl) (Nat.le_of_ble_eq_true rfl) hv (fun H X => ?_)
  replace h := xb h
  obtain ⟨K9, hv, h⟩ := h
  refine xr_prF (v := (some q7)) C X xc_ES (by decide) 2 (by decide) (by decide) rfl (Or.inr ⟨_, rfl⟩) rfl hin rfl m_61 d_ES_init_25 hv (fun H locs X => ?_)
  refine lv_aload_n hx hb d_ES_init_28 rfl (lv_at hl 0 rfl) ?_
  refine lv_iconst hx hb d_ES_init_29 kn_i_3 ?_
  replace h := xpb h
  obtain ⟨q10, K11, hv, h⟩ := h
  refine xr_newq C X 5 (N := 3) (by decide) rfl rfl m_62 (List.mem_of_getElem? (i := 3) rfl) (by decide +kernel) (by decide +kernel) (by decide +kernel) d_ES_init_30 (Nat.le_of_ble_eq_true rfl) (Nat.le_of_ble_eq_true rfl) hv (fun H X => ?_)
  replace h := xb h
  obtain ⟨K12, hv, h⟩ := h
  refine xr_prF (v := (some q10)) C X xc_ES (by decide) 3 (by decide) (by decide) rfl (Or.inr ⟨_, rfl⟩) rfl hin rfl m_63 d_ES_init_33 hv (fun H locs X => ?_)
  refine lv_aload_n hx hb d_ES_init_36 rfl (lv_at hl 0 rfl) ?_
  refine lv_bipush hx hb d_ES_init_37 kn_b_10 ?_
  replace h := xpb h
  obtain ⟨q13, K14, hv, h⟩ := h
  refine xr_newq C X 6 (N := 10) (by decide) rfl rfl m_64 (List.mem_of_getElem? (i := 4) rfl) (by decide +kernel) (by decide +kernel) (by decide +kernel) d_ES_init_39 (Nat.le_of_ble_eq_true rfl) (Nat.le_of_ble_eq_true rfl) hv (fun H X => ?_)
  replace h := xb h
  obtain ⟨K15, hv, h⟩ := h
  refine xr_prF (v := (some q13)) C X xc_ES (by decide) 4 (by decide) (by decide) rfl (Or.inr ⟨_, rfl⟩) rfl hin rfl m_65 d_ES_init_42 hv (fun H locs X => ?_)
  refine lv_aload_n hx hb d_ES_init_45 rfl (lv_at hl 0 rfl) ?_
  replace h := xpb h
  obtain ⟨q16, K17, hv, h⟩ := h
  refine xr_new C X xc_Line (by decide) rfl xdf_Line m_66 m_67 m_68 d_ES_init_46 (Nat.le_of_ble_eq_true rfl) (Nat.le_of_ble_eq_true rfl) hv (fun H X => ?_)
  refine lv_dup hx hb d_ES_init_49 rfl ?_
  replace h := xb h
  obtain ⟨K18, hv, h⟩ := h
  refine xr_kv (va_runI (As := []) (rest := [.ref q16, .ref th]) C.1 (kc_Line_init l E hv) (cwI 0 C.1.2.2.2.2 (xw_in m_70) rfl rfl rfl (C.1.2.2.2.2 _ m_68) (C.1.2.2.2.2 _ m_69) (C.1.2.2.2.2 _ m_71) rfl ky_Line_init ⟨(Nat.le_of_ble_eq_true rfl), (Nat.le_of_ble_eq_true rfl)⟩) (xr_pS C X) rfl rfl hl.1 rfl (lv_room (Nat.le_of_ble_eq_true rfl)) d_ES_init_50 ⟨(Nat.le_of_ble_eq_true rfl), (Nat.le_of_ble_eq_true rfl)⟩) X (fun H locs X => ?_)
  replace h := xb h
  obtain ⟨K19, hv, h⟩ := h
  refine xr_prF (v := (some q16)) C X xc_ES (by decide) 5 (by decide) (by decide) rfl (Or.inl ⟨_, rfl⟩) rfl hin rfl m_72 d_ES_init_53 hv (fun H locs X => ?_)
  refine lv_iconst hx hb d_ES_init_56 kn_i_0 ?_
  refine lv_istore_n hx hb d_ES_init_57 rfl hl (by decide) rfl (fun ls hl => ?_)
  have hl : lv_has ls 2 [(1, .int (0 : Int32)), (0, .ref th)] := hl
  exact kw_ES_init_58000 (th := th) C hlk hr hin  X (lv_sub hl [1, 0] rfl) h
theorem kc_ES_init (l : Launch) (E : xe) {th : Nat} (h : kf_ES_init_0 K th = some K') : Met l y_ES_init (Cond.code y_ES_init b_ES_init 2 none :: w_all) { frames := 3, cells := 62, slots := 971, locals := 61 } (va_Pc [.ref th] (fun U => xx_B E K M U)) (xq_v E K' M) 62 971 (xe_A E) :=
  xr_met (by decide) (Nat.le_of_ble_eq_true rfl) fun p e s m below meth c ls C X hlk hr hin hl => kw_ES_init_0 C hlk hr hin X hl h
set_option maxHeartbeats 4000000 in
set_option maxRecDepth 100000 in
theorem kw_ES_epochOfMajority_55 {r : Int32} (C : xx_C p m c b_ES_epochOfMajority 4 s args Rn_ES E) (hlk : meth.locks = false) (hr : meth.sig.returnType = (some .int)) (hin : meth.name = "epochOfMajority") (X : xx_S E K M s H locs) (hl : lv_has ls 4 []) (h : kf_ES_epochOfMajority_55 K = some (r, K')) : W p l e { frames := 1, cells := 0, slots := 0, locals := 21 } s m args below meth c H locs 0 0 (MQ below (xq_i E K' M r) args s 0 0 (xe_A E)) (F0 m 55 ls []) := by
  have hx := C.1.1
  have hb := C.1.2.1
  unfold kf_ES_epochOfMajority_55 at h
  refine lv_iconst hx hb d_ES_epochOfMajority_55 kn_i_m1 ?_
  obtain ⟨rfl, rfl⟩ := Prod.mk.inj (Option.some.inj h)
  exact xr_iret C X hlk hr d_ES_epochOfMajority_56 rfl (Nat.le_of_ble_eq_true rfl) (Nat.le_of_ble_eq_true rfl)
set_option maxHeartbeats 4000000 in
set_option maxRecDepth 100000 in
theorem kwb_ES_epochOfMajority_6 {rec6 : xk → Nat → Int32 → Int32 → Int32 → Option (Int32 × xk)} {th : Nat} {x1 : Int32} {x2 : Int32} {x3 : Int32} {r : Int32} (C : xx_C p m c b_ES_epochOfMajority 4 s args Rn_ES E) (hlk : meth.locks = false) (hr : meth.sig.returnType = (some .int)) (hin : meth.name = "epochOfMajority") (hrec6 : ∀ {H : Heap} {locs : List Loc} {ls : Array Slot} {K : xk} {th : Nat} {x1 : Int32} {x2 : Int32} {x3 : Int32}, xx_S E K M s H locs → lv_has ls 4 [(0, .ref th), (1, .int x1), (2, .int x2), (3, .int x3)] → rec6 K th x1 x2 x3 = some (r, K') → W p l e { frames := 1, cells := 0, slots := 0, locals := 21 } s m args below meth c H locs 0 0 (MQ below (xq_i E K' M r) args s 0 0 (xe_A E)) (F0 m 6 ls [])) (X : xx_S E K M s H locs) (hl : lv_has ls 4 [(0, .ref th), (1, .int x1), (2, .int x2), (3, .int x3)]) (h : kb_ES_epochOfMajority_6 rec6 K th x1 x2 x3 = some (r, K')) : W p l e { frames := 1, cells := 0, slots := 0, locals := 21 } s m args below meth c H locs 0 0 (MQ below (xq_i E K' M r) args s 0 0 (xe_A E)) (F0 m 6 ls []) := by
  have hx := C.1.1
  have hb := C.1.2.1
  unfold kb_ES_epochOfMajority_6 at h
  refine lv_iload_n hx hb d_ES_epochOfMajority_6 rfl (lv_at hl 3 rfl) ?_
  refine lv_iconst hx hb d_ES_epochOfMajority_7 kn_i_3 ?_
  refine lv_icmp_ge (tgt := 46) hx hb d_ES_epochOfMajority_8 (by decide +kernel) (fun hc => ?_) (fun hc => ?_)
  · rw [if_pos hc] at h
    refine lv_iload_n hx hb d_ES_epochOfMajority_46 rfl (lv_at hl 1 rfl) ?_
    refine lv_iconst hx hb d_ES_epochOfMajority_47 kn_i_2 ?_
    refine lv_icmp_lt (tgt := 55) hx hb d_ES_epochOfMajority_48 (by decide +kernel) (fun hc => ?_) (fun hc => ?_)
    · rw [if_pos hc] at h
      exact kw_ES_epochOfMajority_55 C hlk hr hin  X (lv_sub hl [] rfl) h
    · rw [if_neg hc] at h
      refine lv_iload_n hx hb d_ES_epochOfMajority_51 rfl (lv_at hl 2 rfl) ?_
      refine lv_goto (tgt := 56) hx hb d_ES_epochOfMajority_52 (by decide +kernel) ?_
      obtain ⟨rfl, rfl⟩ := Prod.mk.inj (Option.some.inj h)
      exact xr_iret C X hlk hr d_ES_epochOfMajority_56 rfl (Nat.le_of_ble_eq_true rfl) (Nat.le_of_ble_eq_true rfl)
  · rw [if_neg hc] at h
    refine lv_aload_n hx hb d_ES_epochOfMajority_11 rfl (lv_at hl 0 rfl) ?_
    replace h := xb h
    obtain ⟨v1, hv, h⟩ := h
    refine xr_gr C X xc_ES (by decide) 0 (by decide) (by decide) rfl m_57 d_ES_epochOfMajority_12 hv ?_
    refine lv_iload_n hx hb d_ES_epochOfMajority_15 rfl (lv_at hl 3 rfl) ?_
    replace h := xb h
    obtain ⟨a3, rfl, h⟩ := h
    replace h := xb h
    obtain ⟨v2, hv, h⟩ := h
    refine xr_aald C X 2 (by decide) rfl rfl d_ES_epochOfMajority_16 hv ?_
    replace h := xb h
    obtain ⟨a4, rfl, h⟩ := h
    replace h := xb h
    obtain ⟨v5, hv, h⟩ := h
    refine xr_gi C X xc_Coordinator (by decide) 0 (by decide) (by decide) rfl m_97 d_ES_epochOfMajority_17 hv ?_
    refine lv_if_eq (tgt := 40) hx hb d_ES_epochOfMajority_20 (by decide +kernel) (fun hc => ?_) (fun hc => ?_)
    · rw [if_pos hc] at h
      refine lv_iinc (k := 3) (v := (x3 + (1 : Int32))) hx hb d_ES_epochOfMajority_40 hl rfl (congrArg (fun y : Int32 => x3 + y) kn_i_1) (by decide) rfl (fun ls hl => ?_)
      have hl : lv_has ls 4 [(3, .int (x3 + (1 : Int32))), (0, .ref th), (1, .int x1), (2, .int x2)] := hl
      refine lv_goto (tgt := 6) hx hb d_ES_epochOfMajority_43 (by decide +kernel) ?_
      exact hrec6 (th := th) (x1 := x1) (x2 := x2) (x3 := (x3 + (1 : Int32))) X (lv_sub hl [1, 2, 3, 0] rfl) h
    · rw [if_neg hc] at h
      refine lv_iinc (k := 1) (v := (x1 + (1 : Int32))) hx hb d_ES_epochOfMajority_23 hl rfl (congrArg (fun y : Int32 => x1 + y) kn_i_1) (by decide) rfl (fun ls hl => ?_)
      have hl : lv_has ls 4 [(1, .int (x1 + (1 : Int32))), (0, .ref th), (2, .int x2), (3, .int x3)] := hl
      refine lv_iload_n hx hb d_ES_epochOfMajority_26 rfl (lv_at hl 2 rfl) ?_
      refine lv_aload_n hx hb d_ES_epochOfMajority_27 rfl (lv_at hl 1 rfl) ?_
      replace h := xb h
      obtain ⟨v6, hv, h⟩ := h
      refine xr_gr C X xc_ES (by decide) 0 (by decide) (by decide) rfl m_57 d_ES_epochOfMajority_28 hv ?_
      refine lv_iload_n hx hb d_ES_epochOfMajority_31 rfl (lv_at hl 3 rfl) ?_
      replace h := xb h
      obtain ⟨a8, rfl, h⟩ := h
      replace h := xb h
      obtain ⟨v7, hv, h⟩ := h
      refine xr_aald C X 2 (by decide) rfl rfl d_ES_epochOfMajority_32 hv ?_
      replace h := xb h
      obtain ⟨a9, rfl, h⟩ := h
      replace h := xb h
      obtain ⟨v10, hv, h⟩ := h
      refine xr_gi C X xc_Coordinator (by decide) 1 (by decide) (by decide) rfl m_98 d_ES_epochOfMajority_33 hv ?_
      refine va_mmax hx hb (C.1.2.2.1.trans hl.1.symm) C.1.2.2.2.1 (C.1.2.2.2.2 _ m_99) (C.1.2.2.2.2 _ m_100) (C.1.2.2.2.2 _ m_101) (C.1.2.2.2.2 _ m_102) (Nat.le_of_ble_eq_true rfl) (Nat.le_of_ble_eq_true rfl) (Nat.le_of_ble_eq_true rfl) (Nat.le_of_ble_eq_true rfl) d_ES_epochOfMajority_36 ?_
      refine lv_istore_n hx hb d_ES_epochOfMajority_39 rfl hl (by decide) rfl (fun ls hl => ?_)
      have hl : lv_has ls 4 [(2, .int (if x2 < v10 then v10 else x2)), (1, .int (x1 + (1 : Int32))), (0, .ref th), (3, .int x3)] := hl
      refine lv_iinc (k := 3) (v := (x3 + (1 : Int32))) hx hb d_ES_epochOfMajority_40 hl rfl (congrArg (fun y : Int32 => x3 + y) kn_i_1) (by decide) rfl (fun ls hl => ?_)
      have hl : lv_has ls 4 [(3, .int (x3 + (1 : Int32))), (2, .int (if x2 < v10 then v10 else x2)), (1, .int (x1 + (1 : Int32))), (0, .ref th)] := hl
      refine lv_goto (tgt := 6) hx hb d_ES_epochOfMajority_43 (by decide +kernel) ?_
      exact hrec6 (th := th) (x1 := (x1 + (1 : Int32))) (x2 := (if x2 < v10 then v10 else x2)) (x3 := (x3 + (1 : Int32))) X (lv_sub hl [3, 2, 1, 0] rfl) h
theorem kw_ES_epochOfMajority_6 {r : Int32} (C : xx_C p m c b_ES_epochOfMajority 4 s args Rn_ES E) (hlk : meth.locks = false) (hr : meth.sig.returnType = (some .int)) (hin : meth.name = "epochOfMajority") : ∀ (n : Nat) {H : Heap} {locs : List Loc} {ls : Array Slot} {K : xk} {th : Nat} {x1 : Int32} {x2 : Int32} {x3 : Int32}, xx_S E K M s H locs → lv_has ls 4 [(0, .ref th), (1, .int x1), (2, .int x2), (3, .int x3)] → kf_ES_epochOfMajority_6 n K th x1 x2 x3 = some (r, K') → W p l e { frames := 1, cells := 0, slots := 0, locals := 21 } s m args below meth c H locs 0 0 (MQ below (xq_i E K' M r) args s 0 0 (xe_A E)) (F0 m 6 ls []) := by
  intro n
  induction n with
  | zero => intro H locs ls K th x1 x2 x3 X hl h; exact nomatch (show (none : Option (Int32 × xk)) = some _ from h)
  | succ n ih => intro H locs ls K th x1 x2 x3 X hl h; exact kwb_ES_epochOfMajority_6 C hlk hr hin ih X hl h
set_option maxHeartbeats 4000000 in
set_option maxRecDepth 100000 in
theorem kw_ES_epochOfMajority_0 {th : Nat} {r : Int32} (C : xx_C p m c b_ES_epochOfMajority 4 s args Rn_ES E) (hlk : meth.locks = false) (hr : meth.sig.returnType = (some .int)) (hin : meth.name = "epochOfMajority") (X : xx_S E K M s H locs) (hl : lv_has ls 4 [(0, .ref th)]) (h : kf_ES_epochOfMajority_0 K th = some (r, K')) : W p l e { frames := 1, cells := 0, slots := 0, locals := 21 } s m args below meth c H locs 0 0 (MQ below (xq_i E K' M r) args s 0 0 (xe_A E)) (F0 m 0 ls []) := by
  have hx := C.1.1
  have hb := C.1.2.1
  unfold kf_ES_epochOfMajority_0 at h
  refine lv_iconst hx hb d_ES_epochOfMajority_0 kn_i_0 ?_
  refine lv_istore_n hx hb d_ES_epochOfMajority_1 rfl hl (by decide) rfl (fun ls hl => ?_)
  have hl : lv_has ls 4 [(1, .int (0 : Int32)), (0, .ref th)] := hl
  refine lv_iconst hx hb d_ES_epochOfMajority_2 kn_i_m1 ?_
  refine lv_istore_n hx hb d_ES_epochOfMajority_3 rfl hl (by decide) rfl (fun ls hl => ?_)
  have hl : lv_has ls 4 [(2, .int (-1 : Int32)), (1, .int (0 : Int32)), (0, .ref th)] := hl
  refine lv_iconst hx hb d_ES_epochOfMajority_4 kn_i_0 ?_
  refine lv_istore_n hx hb d_ES_epochOfMajority_5 rfl hl (by decide) rfl (fun ls hl => ?_)
  have hl : lv_has ls 4 [(3, .int (0 : Int32)), (2, .int (-1 : Int32)), (1, .int (0 : Int32)), (0, .ref th)] := hl
  exact kw_ES_epochOfMajority_6 C hlk hr hin 1000 X (lv_sub hl [3, 2, 1, 0] rfl) h
theorem kc_ES_epochOfMajority (l : Launch) (E : xe) {th : Nat} {r : Int32} (h : kf_ES_epochOfMajority_0 K th = some (r, K')) : Met l y_ES_epochOfMajority (Cond.code y_ES_epochOfMajority b_ES_epochOfMajority 4 (some .int) :: w_all) { frames := 1, cells := 0, slots := 0, locals := 21 } (va_Pc [.ref th] (fun U => xx_B E K M U)) (xq_i E K' M r) 0 0 (xe_A E) :=
  xr_met (by decide) (Nat.le_of_ble_eq_true rfl) fun p e s m below meth c ls C X hlk hr hin hl => kw_ES_epochOfMajority_0 C hlk hr hin X hl h
set_option maxHeartbeats 4000000 in
set_option maxRecDepth 100000 in
theorem kw_ES_isClient_0 {x0 : Int32} {r : Int32} (C : xx_C p m c b_ES_isClient 1 s args Rn_ES E) (hlk : meth.locks = false) (hr : meth.sig.returnType = (some .boolean)) (hin : meth.name = "isClient") (X : xx_S E K M s H locs) (hl : lv_has ls 1 [(0, .int x0)]) (h : kf_ES_isClient_0 K x0 = some (r, K')) : W p l e { frames := 0, cells := 0, slots := 0, locals := 0 } s m args below meth c H locs 0 0 (MQ below (xq_i E K' M r) args s 0 0 (xe_A E)) (F0 m 0 ls []) := by
  have hx := C.1.1
  have hb := C.1.2.1
  unfold kf_ES_isClient_0 at h
  refine lv_iload_n hx hb d_ES_isClient_0 rfl (lv_at hl 0 rfl) ?_
  refine lv_if_lt (tgt := 13) hx hb d_ES_isClient_1 (by decide +kernel) (fun hc => ?_) (fun hc => ?_)
  · rw [if_pos hc] at h
    refine lv_iconst hx hb d_ES_isClient_13 kn_i_0 ?_
    obtain ⟨rfl, rfl⟩ := Prod.mk.inj (Option.some.inj h)
    exact xr_zret C X hlk hr d_ES_isClient_14 rfl (Nat.le_of_ble_eq_true rfl) (Nat.le_of_ble_eq_true rfl)
  · rw [if_neg hc] at h
    refine lv_iload_n hx hb d_ES_isClient_4 rfl (lv_at hl 0 rfl) ?_
    refine lv_iconst hx hb d_ES_isClient_5 kn_i_3 ?_
    refine lv_icmp_ge (tgt := 13) hx hb d_ES_isClient_6 (by decide +kernel) (fun hc => ?_) (fun hc => ?_)
    · rw [if_pos hc] at h
      refine lv_iconst hx hb d_ES_isClient_13 kn_i_0 ?_
      obtain ⟨rfl, rfl⟩ := Prod.mk.inj (Option.some.inj h)
      exact xr_zret C X hlk hr d_ES_isClient_14 rfl (Nat.le_of_ble_eq_true rfl) (Nat.le_of_ble_eq_true rfl)
    · rw [if_neg hc] at h
      refine lv_iconst hx hb d_ES_isClient_9 kn_i_1 ?_
      refine lv_goto (tgt := 14) hx hb d_ES_isClient_10 (by decide +kernel) ?_
      obtain ⟨rfl, rfl⟩ := Prod.mk.inj (Option.some.inj h)
      exact xr_zret C X hlk hr d_ES_isClient_14 rfl (Nat.le_of_ble_eq_true rfl) (Nat.le_of_ble_eq_true rfl)
theorem kc_ES_isClient (l : Launch) (E : xe) {x0 : Int32} {r : Int32} (h : kf_ES_isClient_0 K x0 = some (r, K')) : Met l y_ES_isClient (Cond.code y_ES_isClient b_ES_isClient 1 (some .boolean) :: w_all) { frames := 0, cells := 0, slots := 0, locals := 0 } (va_Pc [.int x0] (fun U => xx_B E K M U)) (xq_i E K' M r) 0 0 (xe_A E) :=
  xr_met (by decide) (Nat.le_of_ble_eq_true rfl) fun p e s m below meth c ls C X hlk hr hin hl => kw_ES_isClient_0 C hlk hr hin X hl h
set_option maxHeartbeats 4000000 in
set_option maxRecDepth 100000 in
theorem kw_ES_find_0 {th : Nat} {x1 : Int32} {r : Int32} (C : xx_C p m c b_ES_find 3 s args Rn_ES E) (hlk : meth.locks = false) (hr : meth.sig.returnType = (some .int)) (hin : meth.name = "find") (X : xx_S E K M s H locs) (hl : lv_has ls 3 [(0, .ref th), (1, .int x1)]) (h : kf_ES_find_0 K th x1 = some (r, K')) : W p l e { frames := 2, cells := 0, slots := 0, locals := 44 } s m args below meth c H locs 0 0 (MQ below (xq_i E K' M r) args s 0 0 (xe_A E)) (F0 m 0 ls []) := by
  have hx := C.1.1
  have hb := C.1.2.1
  unfold kf_ES_find_0 at h
  refine lv_aload_n hx hb d_ES_find_0 rfl (lv_at hl 0 rfl) ?_
  replace h := xb h
  obtain ⟨_, hO2, h⟩ := h
  replace h := xpb h
  obtain ⟨r3, K1, hv, h⟩ := h
  refine xr_ki (va_runV (As := []) (rest := []) C.1 (kc_ES_epochOfMajority l E hv) (cwV 0 C.1.2.2.2.2 (xw_V m_103 m_104 m_105 m_106 m_107) rfl rfl rfl ky_ES_epochOfMajority ⟨(Nat.le_of_ble_eq_true rfl), (Nat.le_of_ble_eq_true rfl)⟩) (xr_pV C X xc_ES.1 (xk_Xo (xOk hO2) (by decide))) rfl rfl hl.1 rfl (lv_room (Nat.le_of_ble_eq_true rfl)) d_ES_find_1 ⟨(Nat.le_of_ble_eq_true rfl), (Nat.le_of_ble_eq_true rfl)⟩) X (fun H locs X => ?_)
  refine lv_istore_n hx hb d_ES_find_4 rfl hl (by decide) rfl (fun ls hl => ?_)
  have hl : lv_has ls 3 [(2, .int r3), (0, .ref th), (1, .int x1)] := hl
  refine lv_iload_n hx hb d_ES_find_5 rfl (lv_at hl 2 rfl) ?_
  replace h := xpb h
  obtain ⟨r5, K4, hv, h⟩ := h
  refine xr_ki (va_runS (As := [.int x1]) (rest := []) C.1 (kc_ES_isClient l E hv) (cwS 1 C.1.2.2.2.2 (xw_S m_108 m_109 m_106 m_110) rfl rfl rfl ky_ES_isClient ⟨(Nat.le_of_ble_eq_true rfl), (Nat.le_of_ble_eq_true rfl)⟩) (xr_pS C X) rfl rfl hl.1 rfl (lv_room (Nat.le_of_ble_eq_true rfl)) d_ES_find_6 ⟨(Nat.le_of_ble_eq_true rfl), (Nat.le_of_ble_eq_true rfl)⟩) X (fun H locs X => ?_)
  refine lv_if_eq (tgt := 17) hx hb d_ES_find_9 (by decide +kernel) (fun hc => ?_) (fun hc => ?_)
  · rw [if_pos hc] at h
    refine lv_iconst hx hb d_ES_find_17 kn_i_m1 ?_
    obtain ⟨rfl, rfl⟩ := Prod.mk.inj (Option.some.inj h)
    exact xr_iret C X hlk hr d_ES_find_18 rfl (Nat.le_of_ble_eq_true rfl) (Nat.le_of_ble_eq_true rfl)
  · rw [if_neg hc] at h
    refine lv_iload_n hx hb d_ES_find_12 rfl (lv_at hl 0 rfl) ?_
    refine lv_iconst hx hb d_ES_find_13 kn_i_m1 ?_
    refine lv_icmp_ne (tgt := 19) hx hb d_ES_find_14 (by decide +kernel) (fun hc => ?_) (fun hc => ?_)
    · rw [if_neg hc] at h
      refine lv_aload_n hx hb d_ES_find_19 rfl (lv_at hl 1 rfl) ?_
      replace h := xb h
      obtain ⟨v6, hv, h⟩ := h
      refine xr_gr C X xc_ES (by decide) 3 (by decide) (by decide) rfl m_63 d_ES_find_20 hv ?_
      refine lv_iload_n hx hb d_ES_find_23 rfl (lv_at hl 2 rfl) ?_
      replace h := xb h
      obtain ⟨a8, rfl, h⟩ := h
      replace h := xb h
      obtain ⟨v7, hv, h⟩ := h
      refine xr_aald C X 5 (by decide) rfl rfl d_ES_find_24 hv ?_
      refine lv_iload_n hx hb d_ES_find_25 rfl (lv_at hl 0 rfl) ?_
      replace h := xb h
      obtain ⟨a9, rfl, h⟩ := h
      replace h := xb h
      obtain ⟨K10, hv, h⟩ := h
      refine xr_pi C X xc_Client (by decide) 1 (by decide) (by decide) rfl rfl rfl m_111 d_ES_find_26 hv (fun H locs X => ?_)
      refine lv_iload_n hx hb d_ES_find_29 rfl (lv_at hl 0 rfl) ?_
      obtain ⟨rfl, rfl⟩ := Prod.mk.inj (Option.some.inj h)
      exact xr_iret C X hlk hr d_ES_find_30 rfl (Nat.le_of_ble_eq_true rfl) (Nat.le_of_ble_eq_true rfl)
    · rw [if_pos hc] at h
      refine lv_iconst hx hb d_ES_find_17 kn_i_m1 ?_
      obtain ⟨rfl, rfl⟩ := Prod.mk.inj (Option.some.inj h)
      exact xr_iret C X hlk hr d_ES_find_18 rfl (Nat.le_of_ble_eq_true rfl) (Nat.le_of_ble_eq_true rfl)
theorem kc_ES_find (l : Launch) (E : xe) {th : Nat} {x1 : Int32} {r : Int32} (h : kf_ES_find_0 K th x1 = some (r, K')) : Met l y_ES_find (Cond.code y_ES_find b_ES_find 3 (some .int) :: w_all) { frames := 2, cells := 0, slots := 0, locals := 44 } (va_Pc [.ref th, .int x1] (fun U => xx_B E K M U)) (xq_i E K' M r) 0 0 (xe_A E) :=
  xr_met (by decide) (Nat.le_of_ble_eq_true rfl) fun p e s m below meth c ls C X hlk hr hin hl => kw_ES_find_0 C hlk hr hin X hl h
set_option maxHeartbeats 4000000 in
set_option maxRecDepth 100000 in
theorem kw_Client_isBusy_0 {th : Nat} {r : Int32} (C : xx_C p m c b_Client_isBusy 1 s args Rn_Client E) (hlk : meth.locks = false) (hr : meth.sig.returnType = (some .boolean)) (hin : meth.name = "isBusy") (X : xx_S E K M s H locs) (hl : lv_has ls 1 [(0, .ref th)]) (h : kf_Client_isBusy_0 K th = some (r, K')) : W p l e { frames := 0, cells := 0, slots := 0, locals := 0 } s m args below meth c H locs 0 0 (MQ below (xq_i E K' M r) args s 0 0 (xe_A E)) (F0 m 0 ls []) := by
  have hx := C.1.1
  have hb := C.1.2.1
  unfold kf_Client_isBusy_0 at h
  refine lv_aload_n hx hb d_Client_isBusy_0 rfl (lv_at hl 0 rfl) ?_
  replace h := xb h
  obtain ⟨v1, hv, h⟩ := h
  refine xr_gi C X xc_Client (by decide) 3 (by decide) (by decide) rfl m_34 d_Client_isBusy_1 hv ?_
  refine lv_iconst hx hb d_Client_isBusy_4 kn_i_1 ?_
  refine lv_icmp_eq (tgt := 24) hx hb d_Client_isBusy_5 (by decide +kernel) (fun hc => ?_) (fun hc => ?_)
  · rw [if_pos hc] at h
    refine lv_iconst hx hb d_Client_isBusy_24 kn_i_1 ?_
    refine lv_goto (tgt := 29) hx hb d_Client_isBusy_25 (by decide +kernel) ?_
    obtain ⟨rfl, rfl⟩ := Prod.mk.inj (Option.some.inj h)
    exact xr_zret C X hlk hr d_Client_isBusy_29 rfl (Nat.le_of_ble_eq_true rfl) (Nat.le_of_ble_eq_true rfl)
  · rw [if_neg hc] at h
    refine lv_aload_n hx hb d_Client_isBusy_8 rfl (lv_at hl 0 rfl) ?_
    replace h := xb h
    obtain ⟨v2, hv, h⟩ := h
    refine xr_gi C X xc_Client (by decide) 3 (by decide) (by decide) rfl m_34 d_Client_isBusy_9 hv ?_
    refine lv_iconst hx hb d_Client_isBusy_12 kn_i_2 ?_
    refine lv_icmp_eq (tgt := 24) hx hb d_Client_isBusy_13 (by decide +kernel) (fun hc => ?_) (fun hc => ?_)
    · rw [if_pos hc] at h
      refine lv_iconst hx hb d_Client_isBusy_24 kn_i_1 ?_
      refine lv_goto (tgt := 29) hx hb d_Client_isBusy_25 (by decide +kernel) ?_
      obtain ⟨rfl, rfl⟩ := Prod.mk.inj (Option.some.inj h)
      exact xr_zret C X hlk hr d_Client_isBusy_29 rfl (Nat.le_of_ble_eq_true rfl) (Nat.le_of_ble_eq_true rfl)
    · rw [if_neg hc] at h
      refine lv_aload_n hx hb d_Client_isBusy_16 rfl (lv_at hl 0 rfl) ?_
      replace h := xb h
      obtain ⟨v3, hv, h⟩ := h
      refine xr_gi C X xc_Client (by decide) 3 (by decide) (by decide) rfl m_34 d_Client_isBusy_17 hv ?_
      refine lv_iconst hx hb d_Client_isBusy_20 kn_i_3 ?_
      refine lv_icmp_ne (tgt := 28) hx hb d_Client_isBusy_21 (by decide +kernel) (fun hc => ?_) (fun hc => ?_)
      · rw [if_neg hc] at h
        refine lv_iconst hx hb d_Client_isBusy_28 kn_i_0 ?_
        obtain ⟨rfl, rfl⟩ := Prod.mk.inj (Option.some.inj h)
        exact xr_zret C X hlk hr d_Client_isBusy_29 rfl (Nat.le_of_ble_eq_true rfl) (Nat.le_of_ble_eq_true rfl)
      · rw [if_pos hc] at h
        refine lv_iconst hx hb d_Client_isBusy_24 kn_i_1 ?_
        refine lv_goto (tgt := 29) hx hb d_Client_isBusy_25 (by decide +kernel) ?_
        obtain ⟨rfl, rfl⟩ := Prod.mk.inj (Option.some.inj h)
        exact xr_zret C X hlk hr d_Client_isBusy_29 rfl (Nat.le_of_ble_eq_true rfl) (Nat.le_of_ble_eq_true rfl)
theorem kc_Client_isBusy (l : Launch) (E : xe) {th : Nat} {r : Int32} (h : kf_Client_isBusy_0 K th = some (r, K')) : Met l y_Client_isBusy (Cond.code y_Client_isBusy b_Client_isBusy 1 (some .boolean) :: w_all) { frames := 0, cells := 0, slots := 0, locals := 0 } (va_Pc [.ref th] (fun U => xx_B E K M U)) (xq_i E K' M r) 0 0 (xe_A E) :=
  xr_met (by decide) (Nat.le_of_ble_eq_true rfl) fun p e s m below meth c ls C X hlk hr hin hl => kw_Client_isBusy_0 C hlk hr hin X hl h
end KW3
