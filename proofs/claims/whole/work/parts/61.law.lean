-- the script's ints, by a place
theorem lo_ix (j c : Nat) : nI (4 * j) + Int32.ofNat c = nI (4 * j + c) := nI_add _ _
theorem lo_cmp (r : Int64) : lg_cmp r r = 0 := by unfold lg_cmp; simp
section LOA
variable {p : Program} {l : Launch} {e : Env} {R : Room} {s : State} {m : MethodId} {args : Array Value} {below : List Frame} {meth : Method} {c : Code} {H : Heap} {locs : List Loc} {cells slots : Nat} {Q : State → Prop}
theorem lo_sld {cc : ByteArray} {pc b L : Nat} {ls : Array Slot} {rest : List Value} {xs : Nat → Int32} {A : Nat → Prop} {H0 : Heap} (hx : p.tables.exec = Jvm.exec) (hb : c.code = cc) (hX : va_X b L xs s H0) (hbl : b < H0.size) (hbA : ¬ A b) (hS : va_S A H0 H locs) {i : Int32} {q : Nat} (hi : i = nI q) (hq : q < L) (hL : L ≤ 2048) (hdg : decode cc pc = .ok (.iaload, 1))
    (kk : W p l e R s m args below meth c H locs cells slots Q (F0 m (pc + 1) ls (.int (xs q) :: rest))) : W p l e R s m args below meth c H locs cells slots Q (F0 m pc ls (.int i :: .ref b :: rest)) := by
  subst hi
  have hcl : (nI q).toNatClampNeg = q := nI_clamp (by omega)
  refine va_sld hx hb hX hbl hbA hS (nI_in hq (by omega)) hdg ?_
  rw [hcl]
  exact kk
end LOA
def lo_s0 (Inv : Nat → xk → xm → Prop) (o : Nat) : Prop := ∀ (n : Nat) (K : xk) (M : xm) (a1 : Int32), n < 512 → Inv n K M → ∃ (r : Int32) (K' : xk) (M' : xm), kf_ES_find_0 K o a1 = some (r, K') ∧ kf_EM_find_0 M a1 = some (r, M') ∧ Inv (n + 1) K' M'
def lo_s1 (Inv : Nat → xk → xm → Prop) (o : Nat) : Prop := ∀ (n : Nat) (K : xk) (M : xm) (a1 : Int32), n < 512 → Inv n K M → ∃ (r : Int32) (K' : xk) (M' : xm), kf_ES_begin_0 K o a1 = some (r, K') ∧ kf_EM_begin_0 M a1 = some (r, M') ∧ Inv (n + 1) K' M'
def lo_s2 (Inv : Nat → xk → xm → Prop) (o : Nat) : Prop := ∀ (n : Nat) (K : xk) (M : xm) (a1 : Int32) (a2 : Int32), n < 512 → Inv n K M → ∃ (r : Int64) (K' : xk) (M' : xm), kf_ES_read_0 K o a1 a2 = some (r, K') ∧ kf_EM_read_0 M a1 a2 = some (r, M') ∧ Inv (n + 1) K' M'
def lo_s3 (Inv : Nat → xk → xm → Prop) (o : Nat) : Prop := ∀ (n : Nat) (K : xk) (M : xm) (a1 : Int32) (a2 : Int32) (a3 : Int32), n < 512 → Inv n K M → ∃ (r : Int64) (K' : xk) (M' : xm), kf_ES_range_0 K o a1 a2 a3 = some (r, K') ∧ kf_EM_range_0 M a1 a2 a3 = some (r, M') ∧ Inv (n + 1) K' M'
def lo_s4 (Inv : Nat → xk → xm → Prop) (o : Nat) : Prop := ∀ (n : Nat) (K : xk) (M : xm) (a1 : Int32) (a2 : Int32) (a3 : Int32), n < 512 → Inv n K M → ∃ (r : Int32) (K' : xk) (M' : xm), kf_ES_write_0 K o a1 a2 a3 = some (r, K') ∧ kf_EM_write_0 M a1 a2 a3 = some (r, M') ∧ Inv (n + 1) K' M'
def lo_s5 (Inv : Nat → xk → xm → Prop) (o : Nat) : Prop := ∀ (n : Nat) (K : xk) (M : xm) (a1 : Int32), n < 512 → Inv n K M → ∃ (r : Int32) (K' : xk) (M' : xm), kf_ES_commit_0 K o a1 = some (r, K') ∧ kf_EM_commit_0 M a1 = some (r, M') ∧ Inv (n + 1) K' M'
def lo_s6 (Inv : Nat → xk → xm → Prop) (o : Nat) : Prop := ∀ (n : Nat) (K : xk) (M : xm) (a1 : Int32), n < 512 → Inv n K M → ∃ (r : Int32) (K' : xk) (M' : xm), kf_ES_giveUp_0 K o a1 = some (r, K') ∧ kf_EM_giveUp_0 M a1 = some (r, M') ∧ Inv (n + 1) K' M'
def lo_s7 (Inv : Nat → xk → xm → Prop) (o : Nat) : Prop := ∀ (n : Nat) (K : xk) (M : xm) (a1 : Int32), n < 512 → Inv n K M → ∃ (r : Int32) (K' : xk) (M' : xm), kf_ES_status_0 K o a1 = some (r, K') ∧ kf_EM_status_0 M a1 = some (r, M') ∧ Inv (n + 1) K' M'
def lo_s8 (Inv : Nat → xk → xm → Prop) (o : Nat) : Prop := ∀ (n : Nat) (K : xk) (M : xm), n < 512 → Inv n K M → ∃ (r : Int32) (K' : xk) (M' : xm), kf_ES_messages_0 K o = some (r, K') ∧ kf_EM_messages_0 M = some (r, M') ∧ Inv (n + 1) K' M'
def lo_s9 (Inv : Nat → xk → xm → Prop) (o : Nat) : Prop := ∀ (n : Nat) (K : xk) (M : xm) (a1 : Int32), n < 512 → Inv n K M → ∃ (r : Int32) (K' : xk) (M' : xm), kf_ES_message_0 K o a1 = some (r, K') ∧ kf_EM_message_0 M a1 = some (r, M') ∧ Inv (n + 1) K' M'
def lo_s10 (Inv : Nat → xk → xm → Prop) (o : Nat) : Prop := ∀ (n : Nat) (K : xk) (M : xm) (a1 : Int32), n < 512 → Inv n K M → ∃ (r : Int32) (K' : xk) (M' : xm), kf_ES_deliver_0 K o a1 = some (r, K') ∧ kf_EM_deliver_0 M a1 = some (r, M') ∧ Inv (n + 1) K' M'
def lo_s11 (Inv : Nat → xk → xm → Prop) (o : Nat) : Prop := ∀ (n : Nat) (K : xk) (M : xm) (a1 : Int32), n < 512 → Inv n K M → ∃ (r : Int32) (K' : xk) (M' : xm), kf_ES_lose_0 K o a1 = some (r, K') ∧ kf_EM_lose_0 M a1 = some (r, M') ∧ Inv (n + 1) K' M'
def lo_s12 (Inv : Nat → xk → xm → Prop) (o : Nat) : Prop := ∀ (n : Nat) (K : xk) (M : xm) (a1 : Int32) (a2 : Int32), n < 512 → Inv n K M → ∃ (r : Int32) (K' : xk) (M' : xm), kf_ES_stop_0 K o a1 a2 = some (r, K') ∧ kf_EM_stop_0 M a1 a2 = some (r, M') ∧ Inv (n + 1) K' M'
def lo_s13 (Inv : Nat → xk → xm → Prop) (o : Nat) : Prop := ∀ (n : Nat) (K : xk) (M : xm) (a1 : Int32) (a2 : Int32), n < 512 → Inv n K M → ∃ (r : Int32) (K' : xk) (M' : xm), kf_ES_start_0 K o a1 a2 = some (r, K') ∧ kf_EM_start_0 M a1 a2 = some (r, M') ∧ Inv (n + 1) K' M'
def lo_s14 (Inv : Nat → xk → xm → Prop) (o : Nat) : Prop := ∀ (n : Nat) (K : xk) (M : xm) (a1 : Int32) (a2 : Int32), n < 512 → Inv n K M → ∃ (r : Int32) (K' : xk) (M' : xm), kf_ES_pull_0 K o a1 a2 = some (r, K') ∧ kf_EM_pull_0 M a1 a2 = some (r, M') ∧ Inv (n + 1) K' M'
def lo_s15 (Inv : Nat → xk → xm → Prop) (o : Nat) : Prop := ∀ (n : Nat) (K : xk) (M : xm) (a1 : Int32), n < 512 → Inv n K M → ∃ (r : Int32) (K' : xk) (M' : xm), kf_ES_push_0 K o a1 = some (r, K') ∧ kf_EM_push_0 M a1 = some (r, M') ∧ Inv (n + 1) K' M'
def lo_s16 (Inv : Nat → xk → xm → Prop) (o : Nat) : Prop := ∀ (n : Nat) (K : xk) (M : xm) (a1 : Int32), n < 512 → Inv n K M → ∃ (r : Int32) (K' : xk) (M' : xm), kf_ES_recover_0 K o a1 = some (r, K') ∧ kf_EM_recover_0 M a1 = some (r, M') ∧ Inv (n + 1) K' M'
def lo_s17 (Inv : Nat → xk → xm → Prop) (o : Nat) : Prop := ∀ (n : Nat) (K : xk) (M : xm) (a1 : Int32), n < 512 → Inv n K M → ∃ (r : Int32) (K' : xk) (M' : xm), kf_ES_log_0 K o a1 = some (r, K') ∧ kf_EM_log_0 M a1 = some (r, M') ∧ Inv (n + 1) K' M'
def lo_s18 (Inv : Nat → xk → xm → Prop) (o : Nat) : Prop := ∀ (n : Nat) (K : xk) (M : xm) (a1 : Int32), n < 512 → Inv n K M → ∃ (r : Int32) (K' : xk) (M' : xm), kf_ES_storage_0 K o a1 = some (r, K') ∧ kf_EM_storage_0 M a1 = some (r, M') ∧ Inv (n + 1) K' M'
def lo_s19 (Inv : Nat → xk → xm → Prop) (o : Nat) : Prop := ∀ (n : Nat) (K : xk) (M : xm) (a1 : Int32), n < 512 → Inv n K M → ∃ (r : Int32) (K' : xk) (M' : xm), kf_ES_master_0 K o a1 = some (r, K') ∧ kf_EM_master_0 M a1 = some (r, M') ∧ Inv (n + 1) K' M'
def lo_s20 (Inv : Nat → xk → xm → Prop) (o : Nat) : Prop := ∀ (n : Nat) (K : xk) (M : xm) (a1 : Int32), n < 512 → Inv n K M → ∃ (r : Int32) (K' : xk) (M' : xm), kf_ES_committed_0 K o a1 = some (r, K') ∧ kf_EM_committed_0 M a1 = some (r, M') ∧ Inv (n + 1) K' M'
def lo_s21 (Inv : Nat → xk → xm → Prop) (o : Nat) : Prop := ∀ (n : Nat) (K : xk) (M : xm) (a1 : Int32), n < 512 → Inv n K M → ∃ (r : Int32) (K' : xk) (M' : xm), kf_ES_coordinator_0 K o a1 = some (r, K') ∧ kf_EM_coordinator_0 M a1 = some (r, M') ∧ Inv (n + 1) K' M'
section LOB
variable {p : Program} {l : Launch} {e : Env} {s : State} {m : MethodId} {args : Array Value} {below : List Frame} {meth : Method} {c : Code} {H : Heap} {locs : List Loc} {ls : Array Slot} {cells slots : Nat} {Q : State → Prop} {E : xe} {K K' : xk} {M M' : xm} {b L o j : Nat} {xs : Nat → Int32}
set_option maxHeartbeats 4000000 in
set_option maxRecDepth 100000 in
theorem lc_0 {r : Int32} (C : xx_C p m c code 4 s args Rn_Law E) (hg : xe_g E = true) (X : xx_S E K M s H locs) (hX : va_X b L xs s s.heap) (hbl : b < s.heap.size) (hbA : ¬ xe_A E b) (hl : lv_has ls 4 [(0, .ref b), (1, .ref o), (2, .ref (xe_om E)), (3, .int (nI (4 * j)))]) (hj : 4 * j + 4 ≤ L) (hL : L ≤ 2048) (ho : xk_kd K o = 0 + 1) (h1 : kf_ES_find_0 K o (xs (4 * j + 1)) = some (r, K')) (h2 : kf_EM_find_0 M (xs (4 * j + 1)) = some (r, M')) (hc : cells + 4 ≤ room_1.cells) (hs : slots + 36 ≤ room_1.slots) (kk : ∀ (H : Heap) (locs : List Loc), xx_S E K' M' s H locs → W p l e room_1 s m args below meth c H locs (cells + 4) (slots + 36) Q (F0 m 714 ls [])) : W p l e room_1 s m args below meth c H locs cells slots Q (F0 m 136 ls []) := by
  have hx := C.1.1
  have hb := C.1.2.1
  refine lv_aload_n hx hb d_Law_136 rfl (lv_at hl 1 rfl) ?_
  refine lv_aload_n hx hb d_Law_137 rfl (lv_at hl 0 rfl) ?_
  refine lv_iload_n hx hb d_Law_138 rfl (lv_at hl 3 rfl) ?_
  refine lv_iconst hx hb d_Law_139 kn_i_1 ?_
  refine lv_iadd hx hb d_Law_140 ?_
  refine lo_sld hx hb hX hbl hbA X.2 (lo_ix j 1) (q := 4 * j + 1) (by omega) hL d_Law_141 ?_
  refine xr_ki (va_runV (As := [.int (xs (4 * j + 1))]) (rest := []) C.1 (kc_ES_find l E h1) (cwV 1 C.1.2.2.2.2 (xw_V m_624 m_625 m_626 m_106 m_627) rfl rfl rfl ky_ES_find ⟨(Nat.le_of_ble_eq_true rfl), (Nat.le_of_ble_eq_true rfl)⟩) (xr_pV C X xc_ES.1 (xk_Xo ho (by decide))) rfl rfl hl.1 rfl (lv_room (Nat.le_of_ble_eq_true rfl)) d_Law_142 ⟨by omega, by omega⟩) X (fun H locs X => ?_)
  refine lv_aload_n hx hb d_Law_145 rfl (lv_at hl 2 rfl) ?_
  refine lv_aload_n hx hb d_Law_146 rfl (lv_at hl 0 rfl) ?_
  refine lv_iload_n hx hb d_Law_147 rfl (lv_at hl 3 rfl) ?_
  refine lv_iconst hx hb d_Law_148 kn_i_1 ?_
  refine lv_iadd hx hb d_Law_149 ?_
  refine lo_sld hx hb hX hbl hbA X.2 (lo_ix j 1) (q := 4 * j + 1) (by omega) hL d_Law_150 ?_
  refine xr_ki (va_runV (As := [.int (xs (4 * j + 1))]) (rest := [.int r]) C.1 (kc_EM_find l E hg h2) (cwV 1 C.1.2.2.2.2 (xw_V m_628 m_629 m_630 m_521 m_631) rfl rfl rfl ky_EM_find ⟨(Nat.le_of_ble_eq_true rfl), (Nat.le_of_ble_eq_true rfl)⟩) (xr_pV C X xc_EM.1 (xk_Xw (X.1.2.2.2.2.2 hg).1)) rfl rfl hl.1 rfl (lv_room (Nat.le_of_ble_eq_true rfl)) d_Law_151 ⟨by omega, by omega⟩) X (fun H locs X => ?_)
  refine lv_icmp_eq (tgt := 714) hx hb d_Law_154 (by decide +kernel) (fun _ => ?_) (fun hc => absurd rfl hc)
  exact W.widen (by omega) (by omega) (kk H locs X)
set_option maxHeartbeats 4000000 in
set_option maxRecDepth 100000 in
theorem lc_1 {r : Int32} (C : xx_C p m c code 4 s args Rn_Law E) (hg : xe_g E = true) (X : xx_S E K M s H locs) (hX : va_X b L xs s s.heap) (hbl : b < s.heap.size) (hbA : ¬ xe_A E b) (hl : lv_has ls 4 [(0, .ref b), (1, .ref o), (2, .ref (xe_om E)), (3, .int (nI (4 * j)))]) (hj : 4 * j + 4 ≤ L) (hL : L ≤ 2048) (ho : xk_kd K o = 0 + 1) (h1 : kf_ES_begin_0 K o (xs (4 * j + 1)) = some (r, K')) (h2 : kf_EM_begin_0 M (xs (4 * j + 1)) = some (r, M')) (hc : cells + 4 ≤ room_1.cells) (hs : slots + 36 ≤ room_1.slots) (kk : ∀ (H : Heap) (locs : List Loc), xx_S E K' M' s H locs → W p l e room_1 s m args below meth c H locs (cells + 4) (slots + 36) Q (F0 m 714 ls [])) : W p l e room_1 s m args below meth c H locs cells slots Q (F0 m 159 ls []) := by
  have hx := C.1.1
  have hb := C.1.2.1
  refine lv_aload_n hx hb d_Law_159 rfl (lv_at hl 1 rfl) ?_
  refine lv_aload_n hx hb d_Law_160 rfl (lv_at hl 0 rfl) ?_
  refine lv_iload_n hx hb d_Law_161 rfl (lv_at hl 3 rfl) ?_
  refine lv_iconst hx hb d_Law_162 kn_i_1 ?_
  refine lv_iadd hx hb d_Law_163 ?_
  refine lo_sld hx hb hX hbl hbA X.2 (lo_ix j 1) (q := 4 * j + 1) (by omega) hL d_Law_164 ?_
  refine xr_ki (va_runV (As := [.int (xs (4 * j + 1))]) (rest := []) C.1 (kc_ES_begin l E h1) (cwV 1 C.1.2.2.2.2 (xw_V m_632 m_633 m_634 m_106 m_635) rfl rfl rfl ky_ES_begin ⟨(Nat.le_of_ble_eq_true rfl), (Nat.le_of_ble_eq_true rfl)⟩) (xr_pV C X xc_ES.1 (xk_Xo ho (by decide))) rfl rfl hl.1 rfl (lv_room (Nat.le_of_ble_eq_true rfl)) d_Law_165 ⟨by omega, by omega⟩) X (fun H locs X => ?_)
  refine lv_aload_n hx hb d_Law_168 rfl (lv_at hl 2 rfl) ?_
  refine lv_aload_n hx hb d_Law_169 rfl (lv_at hl 0 rfl) ?_
  refine lv_iload_n hx hb d_Law_170 rfl (lv_at hl 3 rfl) ?_
  refine lv_iconst hx hb d_Law_171 kn_i_1 ?_
  refine lv_iadd hx hb d_Law_172 ?_
  refine lo_sld hx hb hX hbl hbA X.2 (lo_ix j 1) (q := 4 * j + 1) (by omega) hL d_Law_173 ?_
  refine xr_ki (va_runV (As := [.int (xs (4 * j + 1))]) (rest := [.int r]) C.1 (kc_EM_begin l E hg h2) (cwV 1 C.1.2.2.2.2 (xw_V m_636 m_637 m_638 m_521 m_639) rfl rfl rfl ky_EM_begin ⟨(Nat.le_of_ble_eq_true rfl), (Nat.le_of_ble_eq_true rfl)⟩) (xr_pV C X xc_EM.1 (xk_Xw (X.1.2.2.2.2.2 hg).1)) rfl rfl hl.1 rfl (lv_room (Nat.le_of_ble_eq_true rfl)) d_Law_174 ⟨by omega, by omega⟩) X (fun H locs X => ?_)
  refine lv_icmp_eq (tgt := 714) hx hb d_Law_177 (by decide +kernel) (fun _ => ?_) (fun hc => absurd rfl hc)
  exact W.widen (by omega) (by omega) (kk H locs X)
set_option maxHeartbeats 4000000 in
set_option maxRecDepth 100000 in
theorem lc_2 {r : Int64} (C : xx_C p m c code 4 s args Rn_Law E) (hg : xe_g E = true) (X : xx_S E K M s H locs) (hX : va_X b L xs s s.heap) (hbl : b < s.heap.size) (hbA : ¬ xe_A E b) (hl : lv_has ls 4 [(0, .ref b), (1, .ref o), (2, .ref (xe_om E)), (3, .int (nI (4 * j)))]) (hj : 4 * j + 4 ≤ L) (hL : L ≤ 2048) (ho : xk_kd K o = 0 + 1) (h1 : kf_ES_read_0 K o (xs (4 * j + 1)) (xs (4 * j + 2)) = some (r, K')) (h2 : kf_EM_read_0 M (xs (4 * j + 1)) (xs (4 * j + 2)) = some (r, M')) (hc : cells + 4 ≤ room_1.cells) (hs : slots + 36 ≤ room_1.slots) (kk : ∀ (H : Heap) (locs : List Loc), xx_S E K' M' s H locs → W p l e room_1 s m args below meth c H locs (cells + 4) (slots + 36) Q (F0 m 714 ls [])) : W p l e room_1 s m args below meth c H locs cells slots Q (F0 m 182 ls []) := by
  have hx := C.1.1
  have hb := C.1.2.1
  refine lv_aload_n hx hb d_Law_182 rfl (lv_at hl 1 rfl) ?_
  refine lv_aload_n hx hb d_Law_183 rfl (lv_at hl 0 rfl) ?_
  refine lv_iload_n hx hb d_Law_184 rfl (lv_at hl 3 rfl) ?_
  refine lv_iconst hx hb d_Law_185 kn_i_1 ?_
  refine lv_iadd hx hb d_Law_186 ?_
  refine lo_sld hx hb hX hbl hbA X.2 (lo_ix j 1) (q := 4 * j + 1) (by omega) hL d_Law_187 ?_
  refine lv_aload_n hx hb d_Law_188 rfl (lv_at hl 0 rfl) ?_
  refine lv_iload_n hx hb d_Law_189 rfl (lv_at hl 3 rfl) ?_
  refine lv_iconst hx hb d_Law_190 kn_i_2 ?_
  refine lv_iadd hx hb d_Law_191 ?_
  refine lo_sld hx hb hX hbl hbA X.2 (lo_ix j 2) (q := 4 * j + 2) (by omega) hL d_Law_192 ?_
  refine xr_kl (va_runV (As := [.int (xs (4 * j + 1)), .int (xs (4 * j + 2))]) (rest := []) C.1 (kc_ES_read l E h1) (cwV 2 C.1.2.2.2.2 (xw_V m_640 m_641 m_642 m_106 m_643) rfl rfl rfl ky_ES_read ⟨(Nat.le_of_ble_eq_true rfl), (Nat.le_of_ble_eq_true rfl)⟩) (xr_pV C X xc_ES.1 (xk_Xo ho (by decide))) rfl rfl hl.1 rfl (lv_room (Nat.le_of_ble_eq_true rfl)) d_Law_193 ⟨by omega, by omega⟩) X (fun H locs X => ?_)
  refine lv_aload_n hx hb d_Law_196 rfl (lv_at hl 2 rfl) ?_
  refine lv_aload_n hx hb d_Law_197 rfl (lv_at hl 0 rfl) ?_
  refine lv_iload_n hx hb d_Law_198 rfl (lv_at hl 3 rfl) ?_
  refine lv_iconst hx hb d_Law_199 kn_i_1 ?_
  refine lv_iadd hx hb d_Law_200 ?_
  refine lo_sld hx hb hX hbl hbA X.2 (lo_ix j 1) (q := 4 * j + 1) (by omega) hL d_Law_201 ?_
  refine lv_aload_n hx hb d_Law_202 rfl (lv_at hl 0 rfl) ?_
  refine lv_iload_n hx hb d_Law_203 rfl (lv_at hl 3 rfl) ?_
  refine lv_iconst hx hb d_Law_204 kn_i_2 ?_
  refine lv_iadd hx hb d_Law_205 ?_
  refine lo_sld hx hb hX hbl hbA X.2 (lo_ix j 2) (q := 4 * j + 2) (by omega) hL d_Law_206 ?_
  refine xr_kl (va_runV (As := [.int (xs (4 * j + 1)), .int (xs (4 * j + 2))]) (rest := [.long r]) C.1 (kc_EM_read l E hg h2) (cwV 2 C.1.2.2.2.2 (xw_V m_644 m_645 m_646 m_521 m_647) rfl rfl rfl ky_EM_read ⟨(Nat.le_of_ble_eq_true rfl), (Nat.le_of_ble_eq_true rfl)⟩) (xr_pV C X xc_EM.1 (xk_Xw (X.1.2.2.2.2.2 hg).1)) rfl rfl hl.1 rfl (lv_room (Nat.le_of_ble_eq_true rfl)) d_Law_207 ⟨by omega, by omega⟩) X (fun H locs X => ?_)
  refine W.lcmp hx hb d_Law_210 ?_
  refine lv_if_eq (tgt := 714) hx hb d_Law_211 (by decide +kernel) (fun _ => ?_) (fun hc => absurd (lo_cmp r) hc)
  exact W.widen (by omega) (by omega) (kk H locs X)
set_option maxHeartbeats 4000000 in
set_option maxRecDepth 100000 in
theorem lc_3 {r : Int64} (C : xx_C p m c code 4 s args Rn_Law E) (hg : xe_g E = true) (X : xx_S E K M s H locs) (hX : va_X b L xs s s.heap) (hbl : b < s.heap.size) (hbA : ¬ xe_A E b) (hl : lv_has ls 4 [(0, .ref b), (1, .ref o), (2, .ref (xe_om E)), (3, .int (nI (4 * j)))]) (hj : 4 * j + 4 ≤ L) (hL : L ≤ 2048) (ho : xk_kd K o = 0 + 1) (h1 : kf_ES_range_0 K o (xs (4 * j + 1)) (xs (4 * j + 2)) (xs (4 * j + 3)) = some (r, K')) (h2 : kf_EM_range_0 M (xs (4 * j + 1)) (xs (4 * j + 2)) (xs (4 * j + 3)) = some (r, M')) (hc : cells + 4 ≤ room_1.cells) (hs : slots + 36 ≤ room_1.slots) (kk : ∀ (H : Heap) (locs : List Loc), xx_S E K' M' s H locs → W p l e room_1 s m args below meth c H locs (cells + 4) (slots + 36) Q (F0 m 714 ls [])) : W p l e room_1 s m args below meth c H locs cells slots Q (F0 m 216 ls []) := by
  have hx := C.1.1
  have hb := C.1.2.1
  refine lv_aload_n hx hb d_Law_216 rfl (lv_at hl 1 rfl) ?_
  refine lv_aload_n hx hb d_Law_217 rfl (lv_at hl 0 rfl) ?_
  refine lv_iload_n hx hb d_Law_218 rfl (lv_at hl 3 rfl) ?_
  refine lv_iconst hx hb d_Law_219 kn_i_1 ?_
  refine lv_iadd hx hb d_Law_220 ?_
  refine lo_sld hx hb hX hbl hbA X.2 (lo_ix j 1) (q := 4 * j + 1) (by omega) hL d_Law_221 ?_
  refine lv_aload_n hx hb d_Law_222 rfl (lv_at hl 0 rfl) ?_
  refine lv_iload_n hx hb d_Law_223 rfl (lv_at hl 3 rfl) ?_
  refine lv_iconst hx hb d_Law_224 kn_i_2 ?_
  refine lv_iadd hx hb d_Law_225 ?_
  refine lo_sld hx hb hX hbl hbA X.2 (lo_ix j 2) (q := 4 * j + 2) (by omega) hL d_Law_226 ?_
  refine lv_aload_n hx hb d_Law_227 rfl (lv_at hl 0 rfl) ?_
  refine lv_iload_n hx hb d_Law_228 rfl (lv_at hl 3 rfl) ?_
  refine lv_iconst hx hb d_Law_229 kn_i_3 ?_
  refine lv_iadd hx hb d_Law_230 ?_
  refine lo_sld hx hb hX hbl hbA X.2 (lo_ix j 3) (q := 4 * j + 3) (by omega) hL d_Law_231 ?_
  refine xr_kl (va_runV (As := [.int (xs (4 * j + 1)), .int (xs (4 * j + 2)), .int (xs (4 * j + 3))]) (rest := []) C.1 (kc_ES_range l E h1) (cwV 3 C.1.2.2.2.2 (xw_V m_648 m_649 m_650 m_106 m_651) rfl rfl rfl ky_ES_range ⟨(Nat.le_of_ble_eq_true rfl), (Nat.le_of_ble_eq_true rfl)⟩) (xr_pV C X xc_ES.1 (xk_Xo ho (by decide))) rfl rfl hl.1 rfl (lv_room (Nat.le_of_ble_eq_true rfl)) d_Law_232 ⟨by omega, by omega⟩) X (fun H locs X => ?_)
  refine lv_aload_n hx hb d_Law_235 rfl (lv_at hl 2 rfl) ?_
  refine lv_aload_n hx hb d_Law_236 rfl (lv_at hl 0 rfl) ?_
  refine lv_iload_n hx hb d_Law_237 rfl (lv_at hl 3 rfl) ?_
  refine lv_iconst hx hb d_Law_238 kn_i_1 ?_
  refine lv_iadd hx hb d_Law_239 ?_
  refine lo_sld hx hb hX hbl hbA X.2 (lo_ix j 1) (q := 4 * j + 1) (by omega) hL d_Law_240 ?_
  refine lv_aload_n hx hb d_Law_241 rfl (lv_at hl 0 rfl) ?_
  refine lv_iload_n hx hb d_Law_242 rfl (lv_at hl 3 rfl) ?_
  refine lv_iconst hx hb d_Law_243 kn_i_2 ?_
  refine lv_iadd hx hb d_Law_244 ?_
  refine lo_sld hx hb hX hbl hbA X.2 (lo_ix j 2) (q := 4 * j + 2) (by omega) hL d_Law_245 ?_
  refine lv_aload_n hx hb d_Law_246 rfl (lv_at hl 0 rfl) ?_
  refine lv_iload_n hx hb d_Law_247 rfl (lv_at hl 3 rfl) ?_
  refine lv_iconst hx hb d_Law_248 kn_i_3 ?_
  refine lv_iadd hx hb d_Law_249 ?_
  refine lo_sld hx hb hX hbl hbA X.2 (lo_ix j 3) (q := 4 * j + 3) (by omega) hL d_Law_250 ?_
  refine xr_kl (va_runV (As := [.int (xs (4 * j + 1)), .int (xs (4 * j + 2)), .int (xs (4 * j + 3))]) (rest := [.long r]) C.1 (kc_EM_range l E hg h2) (cwV 3 C.1.2.2.2.2 (xw_V m_652 m_653 m_654 m_521 m_655) rfl rfl rfl ky_EM_range ⟨(Nat.le_of_ble_eq_true rfl), (Nat.le_of_ble_eq_true rfl)⟩) (xr_pV C X xc_EM.1 (xk_Xw (X.1.2.2.2.2.2 hg).1)) rfl rfl hl.1 rfl (lv_room (Nat.le_of_ble_eq_true rfl)) d_Law_251 ⟨by omega, by omega⟩) X (fun H locs X => ?_)
  refine W.lcmp hx hb d_Law_254 ?_
  refine lv_if_eq (tgt := 714) hx hb d_Law_255 (by decide +kernel) (fun _ => ?_) (fun hc => absurd (lo_cmp r) hc)
  exact W.widen (by omega) (by omega) (kk H locs X)
set_option maxHeartbeats 4000000 in
set_option maxRecDepth 100000 in
theorem lc_4 {r : Int32} (C : xx_C p m c code 4 s args Rn_Law E) (hg : xe_g E = true) (X : xx_S E K M s H locs) (hX : va_X b L xs s s.heap) (hbl : b < s.heap.size) (hbA : ¬ xe_A E b) (hl : lv_has ls 4 [(0, .ref b), (1, .ref o), (2, .ref (xe_om E)), (3, .int (nI (4 * j)))]) (hj : 4 * j + 4 ≤ L) (hL : L ≤ 2048) (ho : xk_kd K o = 0 + 1) (h1 : kf_ES_write_0 K o (xs (4 * j + 1)) (xs (4 * j + 2)) (xs (4 * j + 3)) = some (r, K')) (h2 : kf_EM_write_0 M (xs (4 * j + 1)) (xs (4 * j + 2)) (xs (4 * j + 3)) = some (r, M')) (hc : cells + 4 ≤ room_1.cells) (hs : slots + 36 ≤ room_1.slots) (kk : ∀ (H : Heap) (locs : List Loc), xx_S E K' M' s H locs → W p l e room_1 s m args below meth c H locs (cells + 4) (slots + 36) Q (F0 m 714 ls [])) : W p l e room_1 s m args below meth c H locs cells slots Q (F0 m 260 ls []) := by
  have hx := C.1.1
  have hb := C.1.2.1
  refine lv_aload_n hx hb d_Law_260 rfl (lv_at hl 1 rfl) ?_
  refine lv_aload_n hx hb d_Law_261 rfl (lv_at hl 0 rfl) ?_
  refine lv_iload_n hx hb d_Law_262 rfl (lv_at hl 3 rfl) ?_
  refine lv_iconst hx hb d_Law_263 kn_i_1 ?_
  refine lv_iadd hx hb d_Law_264 ?_
  refine lo_sld hx hb hX hbl hbA X.2 (lo_ix j 1) (q := 4 * j + 1) (by omega) hL d_Law_265 ?_
  refine lv_aload_n hx hb d_Law_266 rfl (lv_at hl 0 rfl) ?_
  refine lv_iload_n hx hb d_Law_267 rfl (lv_at hl 3 rfl) ?_
  refine lv_iconst hx hb d_Law_268 kn_i_2 ?_
  refine lv_iadd hx hb d_Law_269 ?_
  refine lo_sld hx hb hX hbl hbA X.2 (lo_ix j 2) (q := 4 * j + 2) (by omega) hL d_Law_270 ?_
  refine lv_aload_n hx hb d_Law_271 rfl (lv_at hl 0 rfl) ?_
  refine lv_iload_n hx hb d_Law_272 rfl (lv_at hl 3 rfl) ?_
  refine lv_iconst hx hb d_Law_273 kn_i_3 ?_
  refine lv_iadd hx hb d_Law_274 ?_
  refine lo_sld hx hb hX hbl hbA X.2 (lo_ix j 3) (q := 4 * j + 3) (by omega) hL d_Law_275 ?_
  refine xr_ki (va_runV (As := [.int (xs (4 * j + 1)), .int (xs (4 * j + 2)), .int (xs (4 * j + 3))]) (rest := []) C.1 (kc_ES_write l E h1) (cwV 3 C.1.2.2.2.2 (xw_V m_656 m_657 m_658 m_106 m_659) rfl rfl rfl ky_ES_write ⟨(Nat.le_of_ble_eq_true rfl), (Nat.le_of_ble_eq_true rfl)⟩) (xr_pV C X xc_ES.1 (xk_Xo ho (by decide))) rfl rfl hl.1 rfl (lv_room (Nat.le_of_ble_eq_true rfl)) d_Law_276 ⟨by omega, by omega⟩) X (fun H locs X => ?_)
  refine lv_aload_n hx hb d_Law_279 rfl (lv_at hl 2 rfl) ?_
  refine lv_aload_n hx hb d_Law_280 rfl (lv_at hl 0 rfl) ?_
  refine lv_iload_n hx hb d_Law_281 rfl (lv_at hl 3 rfl) ?_
  refine lv_iconst hx hb d_Law_282 kn_i_1 ?_
  refine lv_iadd hx hb d_Law_283 ?_
  refine lo_sld hx hb hX hbl hbA X.2 (lo_ix j 1) (q := 4 * j + 1) (by omega) hL d_Law_284 ?_
  refine lv_aload_n hx hb d_Law_285 rfl (lv_at hl 0 rfl) ?_
  refine lv_iload_n hx hb d_Law_286 rfl (lv_at hl 3 rfl) ?_
  refine lv_iconst hx hb d_Law_287 kn_i_2 ?_
  refine lv_iadd hx hb d_Law_288 ?_
  refine lo_sld hx hb hX hbl hbA X.2 (lo_ix j 2) (q := 4 * j + 2) (by omega) hL d_Law_289 ?_
  refine lv_aload_n hx hb d_Law_290 rfl (lv_at hl 0 rfl) ?_
  refine lv_iload_n hx hb d_Law_291 rfl (lv_at hl 3 rfl) ?_
  refine lv_iconst hx hb d_Law_292 kn_i_3 ?_
  refine lv_iadd hx hb d_Law_293 ?_
  refine lo_sld hx hb hX hbl hbA X.2 (lo_ix j 3) (q := 4 * j + 3) (by omega) hL d_Law_294 ?_
  refine xr_ki (va_runV (As := [.int (xs (4 * j + 1)), .int (xs (4 * j + 2)), .int (xs (4 * j + 3))]) (rest := [.int r]) C.1 (kc_EM_write l E hg h2) (cwV 3 C.1.2.2.2.2 (xw_V m_660 m_661 m_662 m_521 m_663) rfl rfl rfl ky_EM_write ⟨(Nat.le_of_ble_eq_true rfl), (Nat.le_of_ble_eq_true rfl)⟩) (xr_pV C X xc_EM.1 (xk_Xw (X.1.2.2.2.2.2 hg).1)) rfl rfl hl.1 rfl (lv_room (Nat.le_of_ble_eq_true rfl)) d_Law_295 ⟨by omega, by omega⟩) X (fun H locs X => ?_)
  refine lv_icmp_eq (tgt := 714) hx hb d_Law_298 (by decide +kernel) (fun _ => ?_) (fun hc => absurd rfl hc)
  exact W.widen (by omega) (by omega) (kk H locs X)
set_option maxHeartbeats 4000000 in
set_option maxRecDepth 100000 in
theorem lc_5 {r : Int32} (C : xx_C p m c code 4 s args Rn_Law E) (hg : xe_g E = true) (X : xx_S E K M s H locs) (hX : va_X b L xs s s.heap) (hbl : b < s.heap.size) (hbA : ¬ xe_A E b) (hl : lv_has ls 4 [(0, .ref b), (1, .ref o), (2, .ref (xe_om E)), (3, .int (nI (4 * j)))]) (hj : 4 * j + 4 ≤ L) (hL : L ≤ 2048) (ho : xk_kd K o = 0 + 1) (h1 : kf_ES_commit_0 K o (xs (4 * j + 1)) = some (r, K')) (h2 : kf_EM_commit_0 M (xs (4 * j + 1)) = some (r, M')) (hc : cells + 4 ≤ room_1.cells) (hs : slots + 36 ≤ room_1.slots) (kk : ∀ (H : Heap) (locs : List Loc), xx_S E K' M' s H locs → W p l e room_1 s m args below meth c H locs (cells + 4) (slots + 36) Q (F0 m 714 ls [])) : W p l e room_1 s m args below meth c H locs cells slots Q (F0 m 303 ls []) := by
  have hx := C.1.1
  have hb := C.1.2.1
  refine lv_aload_n hx hb d_Law_303 rfl (lv_at hl 1 rfl) ?_
  refine lv_aload_n hx hb d_Law_304 rfl (lv_at hl 0 rfl) ?_
  refine lv_iload_n hx hb d_Law_305 rfl (lv_at hl 3 rfl) ?_
  refine lv_iconst hx hb d_Law_306 kn_i_1 ?_
  refine lv_iadd hx hb d_Law_307 ?_
  refine lo_sld hx hb hX hbl hbA X.2 (lo_ix j 1) (q := 4 * j + 1) (by omega) hL d_Law_308 ?_
  refine xr_ki (va_runV (As := [.int (xs (4 * j + 1))]) (rest := []) C.1 (kc_ES_commit l E h1) (cwV 1 C.1.2.2.2.2 (xw_V m_664 m_665 m_666 m_106 m_667) rfl rfl rfl ky_ES_commit ⟨(Nat.le_of_ble_eq_true rfl), (Nat.le_of_ble_eq_true rfl)⟩) (xr_pV C X xc_ES.1 (xk_Xo ho (by decide))) rfl rfl hl.1 rfl (lv_room (Nat.le_of_ble_eq_true rfl)) d_Law_309 ⟨by omega, by omega⟩) X (fun H locs X => ?_)
  refine lv_aload_n hx hb d_Law_312 rfl (lv_at hl 2 rfl) ?_
  refine lv_aload_n hx hb d_Law_313 rfl (lv_at hl 0 rfl) ?_
  refine lv_iload_n hx hb d_Law_314 rfl (lv_at hl 3 rfl) ?_
  refine lv_iconst hx hb d_Law_315 kn_i_1 ?_
  refine lv_iadd hx hb d_Law_316 ?_
  refine lo_sld hx hb hX hbl hbA X.2 (lo_ix j 1) (q := 4 * j + 1) (by omega) hL d_Law_317 ?_
  refine xr_ki (va_runV (As := [.int (xs (4 * j + 1))]) (rest := [.int r]) C.1 (kc_EM_commit l E hg h2) (cwV 1 C.1.2.2.2.2 (xw_V m_668 m_669 m_670 m_521 m_671) rfl rfl rfl ky_EM_commit ⟨(Nat.le_of_ble_eq_true rfl), (Nat.le_of_ble_eq_true rfl)⟩) (xr_pV C X xc_EM.1 (xk_Xw (X.1.2.2.2.2.2 hg).1)) rfl rfl hl.1 rfl (lv_room (Nat.le_of_ble_eq_true rfl)) d_Law_318 ⟨by omega, by omega⟩) X (fun H locs X => ?_)
  refine lv_icmp_eq (tgt := 714) hx hb d_Law_321 (by decide +kernel) (fun _ => ?_) (fun hc => absurd rfl hc)
  exact W.widen (by omega) (by omega) (kk H locs X)
set_option maxHeartbeats 4000000 in
set_option maxRecDepth 100000 in
theorem lc_6 {r : Int32} (C : xx_C p m c code 4 s args Rn_Law E) (hg : xe_g E = true) (X : xx_S E K M s H locs) (hX : va_X b L xs s s.heap) (hbl : b < s.heap.size) (hbA : ¬ xe_A E b) (hl : lv_has ls 4 [(0, .ref b), (1, .ref o), (2, .ref (xe_om E)), (3, .int (nI (4 * j)))]) (hj : 4 * j + 4 ≤ L) (hL : L ≤ 2048) (ho : xk_kd K o = 0 + 1) (h1 : kf_ES_giveUp_0 K o (xs (4 * j + 1)) = some (r, K')) (h2 : kf_EM_giveUp_0 M (xs (4 * j + 1)) = some (r, M')) (hc : cells + 4 ≤ room_1.cells) (hs : slots + 36 ≤ room_1.slots) (kk : ∀ (H : Heap) (locs : List Loc), xx_S E K' M' s H locs → W p l e room_1 s m args below meth c H locs (cells + 4) (slots + 36) Q (F0 m 714 ls [])) : W p l e room_1 s m args below meth c H locs cells slots Q (F0 m 326 ls []) := by
  have hx := C.1.1
  have hb := C.1.2.1
  refine lv_aload_n hx hb d_Law_326 rfl (lv_at hl 1 rfl) ?_
  refine lv_aload_n hx hb d_Law_327 rfl (lv_at hl 0 rfl) ?_
  refine lv_iload_n hx hb d_Law_328 rfl (lv_at hl 3 rfl) ?_
  refine lv_iconst hx hb d_Law_329 kn_i_1 ?_
  refine lv_iadd hx hb d_Law_330 ?_
  refine lo_sld hx hb hX hbl hbA X.2 (lo_ix j 1) (q := 4 * j + 1) (by omega) hL d_Law_331 ?_
  refine xr_ki (va_runV (As := [.int (xs (4 * j + 1))]) (rest := []) C.1 (kc_ES_giveUp l E h1) (cwV 1 C.1.2.2.2.2 (xw_V m_672 m_673 m_674 m_106 m_675) rfl rfl rfl ky_ES_giveUp ⟨(Nat.le_of_ble_eq_true rfl), (Nat.le_of_ble_eq_true rfl)⟩) (xr_pV C X xc_ES.1 (xk_Xo ho (by decide))) rfl rfl hl.1 rfl (lv_room (Nat.le_of_ble_eq_true rfl)) d_Law_332 ⟨by omega, by omega⟩) X (fun H locs X => ?_)
  refine lv_aload_n hx hb d_Law_335 rfl (lv_at hl 2 rfl) ?_
  refine lv_aload_n hx hb d_Law_336 rfl (lv_at hl 0 rfl) ?_
  refine lv_iload_n hx hb d_Law_337 rfl (lv_at hl 3 rfl) ?_
  refine lv_iconst hx hb d_Law_338 kn_i_1 ?_
  refine lv_iadd hx hb d_Law_339 ?_
  refine lo_sld hx hb hX hbl hbA X.2 (lo_ix j 1) (q := 4 * j + 1) (by omega) hL d_Law_340 ?_
  refine xr_ki (va_runV (As := [.int (xs (4 * j + 1))]) (rest := [.int r]) C.1 (kc_EM_giveUp l E hg h2) (cwV 1 C.1.2.2.2.2 (xw_V m_676 m_677 m_678 m_521 m_679) rfl rfl rfl ky_EM_giveUp ⟨(Nat.le_of_ble_eq_true rfl), (Nat.le_of_ble_eq_true rfl)⟩) (xr_pV C X xc_EM.1 (xk_Xw (X.1.2.2.2.2.2 hg).1)) rfl rfl hl.1 rfl (lv_room (Nat.le_of_ble_eq_true rfl)) d_Law_341 ⟨by omega, by omega⟩) X (fun H locs X => ?_)
  refine lv_icmp_eq (tgt := 714) hx hb d_Law_344 (by decide +kernel) (fun _ => ?_) (fun hc => absurd rfl hc)
  exact W.widen (by omega) (by omega) (kk H locs X)
set_option maxHeartbeats 4000000 in
set_option maxRecDepth 100000 in
theorem lc_7 {r : Int32} (C : xx_C p m c code 4 s args Rn_Law E) (hg : xe_g E = true) (X : xx_S E K M s H locs) (hX : va_X b L xs s s.heap) (hbl : b < s.heap.size) (hbA : ¬ xe_A E b) (hl : lv_has ls 4 [(0, .ref b), (1, .ref o), (2, .ref (xe_om E)), (3, .int (nI (4 * j)))]) (hj : 4 * j + 4 ≤ L) (hL : L ≤ 2048) (ho : xk_kd K o = 0 + 1) (h1 : kf_ES_status_0 K o (xs (4 * j + 1)) = some (r, K')) (h2 : kf_EM_status_0 M (xs (4 * j + 1)) = some (r, M')) (hc : cells + 4 ≤ room_1.cells) (hs : slots + 36 ≤ room_1.slots) (kk : ∀ (H : Heap) (locs : List Loc), xx_S E K' M' s H locs → W p l e room_1 s m args below meth c H locs (cells + 4) (slots + 36) Q (F0 m 714 ls [])) : W p l e room_1 s m args below meth c H locs cells slots Q (F0 m 349 ls []) := by
  have hx := C.1.1
  have hb := C.1.2.1
  refine lv_aload_n hx hb d_Law_349 rfl (lv_at hl 1 rfl) ?_
  refine lv_aload_n hx hb d_Law_350 rfl (lv_at hl 0 rfl) ?_
  refine lv_iload_n hx hb d_Law_351 rfl (lv_at hl 3 rfl) ?_
  refine lv_iconst hx hb d_Law_352 kn_i_1 ?_
  refine lv_iadd hx hb d_Law_353 ?_
  refine lo_sld hx hb hX hbl hbA X.2 (lo_ix j 1) (q := 4 * j + 1) (by omega) hL d_Law_354 ?_
  refine xr_ki (va_runV (As := [.int (xs (4 * j + 1))]) (rest := []) C.1 (kc_ES_status l E h1) (cwV 1 C.1.2.2.2.2 (xw_V m_680 m_681 m_682 m_106 m_683) rfl rfl rfl ky_ES_status ⟨(Nat.le_of_ble_eq_true rfl), (Nat.le_of_ble_eq_true rfl)⟩) (xr_pV C X xc_ES.1 (xk_Xo ho (by decide))) rfl rfl hl.1 rfl (lv_room (Nat.le_of_ble_eq_true rfl)) d_Law_355 ⟨by omega, by omega⟩) X (fun H locs X => ?_)
  refine lv_aload_n hx hb d_Law_358 rfl (lv_at hl 2 rfl) ?_
  refine lv_aload_n hx hb d_Law_359 rfl (lv_at hl 0 rfl) ?_
  refine lv_iload_n hx hb d_Law_360 rfl (lv_at hl 3 rfl) ?_
  refine lv_iconst hx hb d_Law_361 kn_i_1 ?_
  refine lv_iadd hx hb d_Law_362 ?_
  refine lo_sld hx hb hX hbl hbA X.2 (lo_ix j 1) (q := 4 * j + 1) (by omega) hL d_Law_363 ?_
  refine xr_ki (va_runV (As := [.int (xs (4 * j + 1))]) (rest := [.int r]) C.1 (kc_EM_status l E hg h2) (cwV 1 C.1.2.2.2.2 (xw_V m_684 m_685 m_686 m_521 m_687) rfl rfl rfl ky_EM_status ⟨(Nat.le_of_ble_eq_true rfl), (Nat.le_of_ble_eq_true rfl)⟩) (xr_pV C X xc_EM.1 (xk_Xw (X.1.2.2.2.2.2 hg).1)) rfl rfl hl.1 rfl (lv_room (Nat.le_of_ble_eq_true rfl)) d_Law_364 ⟨by omega, by omega⟩) X (fun H locs X => ?_)
  refine lv_icmp_eq (tgt := 714) hx hb d_Law_367 (by decide +kernel) (fun _ => ?_) (fun hc => absurd rfl hc)
  exact W.widen (by omega) (by omega) (kk H locs X)
set_option maxHeartbeats 4000000 in
set_option maxRecDepth 100000 in
theorem lc_8 {r : Int32} (C : xx_C p m c code 4 s args Rn_Law E) (hg : xe_g E = true) (X : xx_S E K M s H locs) (hX : va_X b L xs s s.heap) (hbl : b < s.heap.size) (hbA : ¬ xe_A E b) (hl : lv_has ls 4 [(0, .ref b), (1, .ref o), (2, .ref (xe_om E)), (3, .int (nI (4 * j)))]) (hj : 4 * j + 4 ≤ L) (hL : L ≤ 2048) (ho : xk_kd K o = 0 + 1) (h1 : kf_ES_messages_0 K o = some (r, K')) (h2 : kf_EM_messages_0 M = some (r, M')) (hc : cells + 4 ≤ room_1.cells) (hs : slots + 36 ≤ room_1.slots) (kk : ∀ (H : Heap) (locs : List Loc), xx_S E K' M' s H locs → W p l e room_1 s m args below meth c H locs (cells + 4) (slots + 36) Q (F0 m 714 ls [])) : W p l e room_1 s m args below meth c H locs cells slots Q (F0 m 372 ls []) := by
  have hx := C.1.1
  have hb := C.1.2.1
  refine lv_aload_n hx hb d_Law_372 rfl (lv_at hl 1 rfl) ?_
  refine xr_ki (va_runV (As := []) (rest := []) C.1 (kc_ES_messages l E h1) (cwV 0 C.1.2.2.2.2 (xw_V m_688 m_689 m_690 m_106 m_691) rfl rfl rfl ky_ES_messages ⟨(Nat.le_of_ble_eq_true rfl), (Nat.le_of_ble_eq_true rfl)⟩) (xr_pV C X xc_ES.1 (xk_Xo ho (by decide))) rfl rfl hl.1 rfl (lv_room (Nat.le_of_ble_eq_true rfl)) d_Law_373 ⟨by omega, by omega⟩) X (fun H locs X => ?_)
  refine lv_aload_n hx hb d_Law_376 rfl (lv_at hl 2 rfl) ?_
  refine xr_ki (va_runV (As := []) (rest := [.int r]) C.1 (kc_EM_messages l E hg h2) (cwV 0 C.1.2.2.2.2 (xw_V m_692 m_693 m_694 m_521 m_695) rfl rfl rfl ky_EM_messages ⟨(Nat.le_of_ble_eq_true rfl), (Nat.le_of_ble_eq_true rfl)⟩) (xr_pV C X xc_EM.1 (xk_Xw (X.1.2.2.2.2.2 hg).1)) rfl rfl hl.1 rfl (lv_room (Nat.le_of_ble_eq_true rfl)) d_Law_377 ⟨by omega, by omega⟩) X (fun H locs X => ?_)
  refine lv_icmp_eq (tgt := 714) hx hb d_Law_380 (by decide +kernel) (fun _ => ?_) (fun hc => absurd rfl hc)
  exact W.widen (by omega) (by omega) (kk H locs X)
set_option maxHeartbeats 4000000 in
set_option maxRecDepth 100000 in
theorem lc_9 {r : Int32} (C : xx_C p m c code 4 s args Rn_Law E) (hg : xe_g E = true) (X : xx_S E K M s H locs) (hX : va_X b L xs s s.heap) (hbl : b < s.heap.size) (hbA : ¬ xe_A E b) (hl : lv_has ls 4 [(0, .ref b), (1, .ref o), (2, .ref (xe_om E)), (3, .int (nI (4 * j)))]) (hj : 4 * j + 4 ≤ L) (hL : L ≤ 2048) (ho : xk_kd K o = 0 + 1) (h1 : kf_ES_message_0 K o (xs (4 * j + 1)) = some (r, K')) (h2 : kf_EM_message_0 M (xs (4 * j + 1)) = some (r, M')) (hc : cells + 4 ≤ room_1.cells) (hs : slots + 36 ≤ room_1.slots) (kk : ∀ (H : Heap) (locs : List Loc), xx_S E K' M' s H locs → W p l e room_1 s m args below meth c H locs (cells + 4) (slots + 36) Q (F0 m 714 ls [])) : W p l e room_1 s m args below meth c H locs cells slots Q (F0 m 385 ls []) := by
  have hx := C.1.1
  have hb := C.1.2.1
  refine lv_aload_n hx hb d_Law_385 rfl (lv_at hl 1 rfl) ?_
  refine lv_aload_n hx hb d_Law_386 rfl (lv_at hl 0 rfl) ?_
  refine lv_iload_n hx hb d_Law_387 rfl (lv_at hl 3 rfl) ?_
  refine lv_iconst hx hb d_Law_388 kn_i_1 ?_
  refine lv_iadd hx hb d_Law_389 ?_
  refine lo_sld hx hb hX hbl hbA X.2 (lo_ix j 1) (q := 4 * j + 1) (by omega) hL d_Law_390 ?_
  refine xr_ki (va_runV (As := [.int (xs (4 * j + 1))]) (rest := []) C.1 (kc_ES_message l E h1) (cwV 1 C.1.2.2.2.2 (xw_V m_696 m_697 m_698 m_106 m_699) rfl rfl rfl ky_ES_message ⟨(Nat.le_of_ble_eq_true rfl), (Nat.le_of_ble_eq_true rfl)⟩) (xr_pV C X xc_ES.1 (xk_Xo ho (by decide))) rfl rfl hl.1 rfl (lv_room (Nat.le_of_ble_eq_true rfl)) d_Law_391 ⟨by omega, by omega⟩) X (fun H locs X => ?_)
  refine lv_aload_n hx hb d_Law_394 rfl (lv_at hl 2 rfl) ?_
  refine lv_aload_n hx hb d_Law_395 rfl (lv_at hl 0 rfl) ?_
  refine lv_iload_n hx hb d_Law_396 rfl (lv_at hl 3 rfl) ?_
  refine lv_iconst hx hb d_Law_397 kn_i_1 ?_
  refine lv_iadd hx hb d_Law_398 ?_
  refine lo_sld hx hb hX hbl hbA X.2 (lo_ix j 1) (q := 4 * j + 1) (by omega) hL d_Law_399 ?_
  refine xr_ki (va_runV (As := [.int (xs (4 * j + 1))]) (rest := [.int r]) C.1 (kc_EM_message l E hg h2) (cwV 1 C.1.2.2.2.2 (xw_V m_700 m_701 m_702 m_521 m_703) rfl rfl rfl ky_EM_message ⟨(Nat.le_of_ble_eq_true rfl), (Nat.le_of_ble_eq_true rfl)⟩) (xr_pV C X xc_EM.1 (xk_Xw (X.1.2.2.2.2.2 hg).1)) rfl rfl hl.1 rfl (lv_room (Nat.le_of_ble_eq_true rfl)) d_Law_400 ⟨by omega, by omega⟩) X (fun H locs X => ?_)
  refine lv_icmp_eq (tgt := 714) hx hb d_Law_403 (by decide +kernel) (fun _ => ?_) (fun hc => absurd rfl hc)
  exact W.widen (by omega) (by omega) (kk H locs X)
set_option maxHeartbeats 4000000 in
set_option maxRecDepth 100000 in
theorem lc_10 {r : Int32} (C : xx_C p m c code 4 s args Rn_Law E) (hg : xe_g E = true) (X : xx_S E K M s H locs) (hX : va_X b L xs s s.heap) (hbl : b < s.heap.size) (hbA : ¬ xe_A E b) (hl : lv_has ls 4 [(0, .ref b), (1, .ref o), (2, .ref (xe_om E)), (3, .int (nI (4 * j)))]) (hj : 4 * j + 4 ≤ L) (hL : L ≤ 2048) (ho : xk_kd K o = 0 + 1) (h1 : kf_ES_deliver_0 K o (xs (4 * j + 1)) = some (r, K')) (h2 : kf_EM_deliver_0 M (xs (4 * j + 1)) = some (r, M')) (hc : cells + 4 ≤ room_1.cells) (hs : slots + 36 ≤ room_1.slots) (kk : ∀ (H : Heap) (locs : List Loc), xx_S E K' M' s H locs → W p l e room_1 s m args below meth c H locs (cells + 4) (slots + 36) Q (F0 m 714 ls [])) : W p l e room_1 s m args below meth c H locs cells slots Q (F0 m 408 ls []) := by
  have hx := C.1.1
  have hb := C.1.2.1
  refine lv_aload_n hx hb d_Law_408 rfl (lv_at hl 1 rfl) ?_
  refine lv_aload_n hx hb d_Law_409 rfl (lv_at hl 0 rfl) ?_
  refine lv_iload_n hx hb d_Law_410 rfl (lv_at hl 3 rfl) ?_
  refine lv_iconst hx hb d_Law_411 kn_i_1 ?_
  refine lv_iadd hx hb d_Law_412 ?_
  refine lo_sld hx hb hX hbl hbA X.2 (lo_ix j 1) (q := 4 * j + 1) (by omega) hL d_Law_413 ?_
  refine xr_ki (va_runV (As := [.int (xs (4 * j + 1))]) (rest := []) C.1 (kc_ES_deliver l E h1) (cwV 1 C.1.2.2.2.2 (xw_V m_704 m_705 m_706 m_106 m_707) rfl rfl rfl ky_ES_deliver ⟨(Nat.le_of_ble_eq_true rfl), (Nat.le_of_ble_eq_true rfl)⟩) (xr_pV C X xc_ES.1 (xk_Xo ho (by decide))) rfl rfl hl.1 rfl (lv_room (Nat.le_of_ble_eq_true rfl)) d_Law_414 ⟨by omega, by omega⟩) X (fun H locs X => ?_)
  refine lv_aload_n hx hb d_Law_417 rfl (lv_at hl 2 rfl) ?_
  refine lv_aload_n hx hb d_Law_418 rfl (lv_at hl 0 rfl) ?_
  refine lv_iload_n hx hb d_Law_419 rfl (lv_at hl 3 rfl) ?_
  refine lv_iconst hx hb d_Law_420 kn_i_1 ?_
  refine lv_iadd hx hb d_Law_421 ?_
  refine lo_sld hx hb hX hbl hbA X.2 (lo_ix j 1) (q := 4 * j + 1) (by omega) hL d_Law_422 ?_
  refine xr_ki (va_runV (As := [.int (xs (4 * j + 1))]) (rest := [.int r]) C.1 (kc_EM_deliver l E hg h2) (cwV 1 C.1.2.2.2.2 (xw_V m_708 m_709 m_710 m_521 m_711) rfl rfl rfl ky_EM_deliver ⟨(Nat.le_of_ble_eq_true rfl), (Nat.le_of_ble_eq_true rfl)⟩) (xr_pV C X xc_EM.1 (xk_Xw (X.1.2.2.2.2.2 hg).1)) rfl rfl hl.1 rfl (lv_room (Nat.le_of_ble_eq_true rfl)) d_Law_423 ⟨by omega, by omega⟩) X (fun H locs X => ?_)
  refine lv_icmp_eq (tgt := 714) hx hb d_Law_426 (by decide +kernel) (fun _ => ?_) (fun hc => absurd rfl hc)
  exact W.widen (by omega) (by omega) (kk H locs X)
set_option maxHeartbeats 4000000 in
set_option maxRecDepth 100000 in
theorem lc_11 {r : Int32} (C : xx_C p m c code 4 s args Rn_Law E) (hg : xe_g E = true) (X : xx_S E K M s H locs) (hX : va_X b L xs s s.heap) (hbl : b < s.heap.size) (hbA : ¬ xe_A E b) (hl : lv_has ls 4 [(0, .ref b), (1, .ref o), (2, .ref (xe_om E)), (3, .int (nI (4 * j)))]) (hj : 4 * j + 4 ≤ L) (hL : L ≤ 2048) (ho : xk_kd K o = 0 + 1) (h1 : kf_ES_lose_0 K o (xs (4 * j + 1)) = some (r, K')) (h2 : kf_EM_lose_0 M (xs (4 * j + 1)) = some (r, M')) (hc : cells + 4 ≤ room_1.cells) (hs : slots + 36 ≤ room_1.slots) (kk : ∀ (H : Heap) (locs : List Loc), xx_S E K' M' s H locs → W p l e room_1 s m args below meth c H locs (cells + 4) (slots + 36) Q (F0 m 714 ls [])) : W p l e room_1 s m args below meth c H locs cells slots Q (F0 m 431 ls []) := by
  have hx := C.1.1
  have hb := C.1.2.1
  refine lv_aload_n hx hb d_Law_431 rfl (lv_at hl 1 rfl) ?_
  refine lv_aload_n hx hb d_Law_432 rfl (lv_at hl 0 rfl) ?_
  refine lv_iload_n hx hb d_Law_433 rfl (lv_at hl 3 rfl) ?_
  refine lv_iconst hx hb d_Law_434 kn_i_1 ?_
  refine lv_iadd hx hb d_Law_435 ?_
  refine lo_sld hx hb hX hbl hbA X.2 (lo_ix j 1) (q := 4 * j + 1) (by omega) hL d_Law_436 ?_
  refine xr_ki (va_runV (As := [.int (xs (4 * j + 1))]) (rest := []) C.1 (kc_ES_lose l E h1) (cwV 1 C.1.2.2.2.2 (xw_V m_712 m_713 m_714 m_106 m_715) rfl rfl rfl ky_ES_lose ⟨(Nat.le_of_ble_eq_true rfl), (Nat.le_of_ble_eq_true rfl)⟩) (xr_pV C X xc_ES.1 (xk_Xo ho (by decide))) rfl rfl hl.1 rfl (lv_room (Nat.le_of_ble_eq_true rfl)) d_Law_437 ⟨by omega, by omega⟩) X (fun H locs X => ?_)
  refine lv_aload_n hx hb d_Law_440 rfl (lv_at hl 2 rfl) ?_
  refine lv_aload_n hx hb d_Law_441 rfl (lv_at hl 0 rfl) ?_
  refine lv_iload_n hx hb d_Law_442 rfl (lv_at hl 3 rfl) ?_
  refine lv_iconst hx hb d_Law_443 kn_i_1 ?_
  refine lv_iadd hx hb d_Law_444 ?_
  refine lo_sld hx hb hX hbl hbA X.2 (lo_ix j 1) (q := 4 * j + 1) (by omega) hL d_Law_445 ?_
  refine xr_ki (va_runV (As := [.int (xs (4 * j + 1))]) (rest := [.int r]) C.1 (kc_EM_lose l E hg h2) (cwV 1 C.1.2.2.2.2 (xw_V m_716 m_717 m_718 m_521 m_719) rfl rfl rfl ky_EM_lose ⟨(Nat.le_of_ble_eq_true rfl), (Nat.le_of_ble_eq_true rfl)⟩) (xr_pV C X xc_EM.1 (xk_Xw (X.1.2.2.2.2.2 hg).1)) rfl rfl hl.1 rfl (lv_room (Nat.le_of_ble_eq_true rfl)) d_Law_446 ⟨by omega, by omega⟩) X (fun H locs X => ?_)
  refine lv_icmp_eq (tgt := 714) hx hb d_Law_449 (by decide +kernel) (fun _ => ?_) (fun hc => absurd rfl hc)
  exact W.widen (by omega) (by omega) (kk H locs X)
set_option maxHeartbeats 4000000 in
set_option maxRecDepth 100000 in
theorem lc_12 {r : Int32} (C : xx_C p m c code 4 s args Rn_Law E) (hg : xe_g E = true) (X : xx_S E K M s H locs) (hX : va_X b L xs s s.heap) (hbl : b < s.heap.size) (hbA : ¬ xe_A E b) (hl : lv_has ls 4 [(0, .ref b), (1, .ref o), (2, .ref (xe_om E)), (3, .int (nI (4 * j)))]) (hj : 4 * j + 4 ≤ L) (hL : L ≤ 2048) (ho : xk_kd K o = 0 + 1) (h1 : kf_ES_stop_0 K o (xs (4 * j + 1)) (xs (4 * j + 2)) = some (r, K')) (h2 : kf_EM_stop_0 M (xs (4 * j + 1)) (xs (4 * j + 2)) = some (r, M')) (hc : cells + 4 ≤ room_1.cells) (hs : slots + 36 ≤ room_1.slots) (kk : ∀ (H : Heap) (locs : List Loc), xx_S E K' M' s H locs → W p l e room_1 s m args below meth c H locs (cells + 4) (slots + 36) Q (F0 m 714 ls [])) : W p l e room_1 s m args below meth c H locs cells slots Q (F0 m 454 ls []) := by
  have hx := C.1.1
  have hb := C.1.2.1
  refine lv_aload_n hx hb d_Law_454 rfl (lv_at hl 1 rfl) ?_
  refine lv_aload_n hx hb d_Law_455 rfl (lv_at hl 0 rfl) ?_
  refine lv_iload_n hx hb d_Law_456 rfl (lv_at hl 3 rfl) ?_
  refine lv_iconst hx hb d_Law_457 kn_i_1 ?_
  refine lv_iadd hx hb d_Law_458 ?_
  refine lo_sld hx hb hX hbl hbA X.2 (lo_ix j 1) (q := 4 * j + 1) (by omega) hL d_Law_459 ?_
  refine lv_aload_n hx hb d_Law_460 rfl (lv_at hl 0 rfl) ?_
  refine lv_iload_n hx hb d_Law_461 rfl (lv_at hl 3 rfl) ?_
  refine lv_iconst hx hb d_Law_462 kn_i_2 ?_
  refine lv_iadd hx hb d_Law_463 ?_
  refine lo_sld hx hb hX hbl hbA X.2 (lo_ix j 2) (q := 4 * j + 2) (by omega) hL d_Law_464 ?_
  refine xr_ki (va_runV (As := [.int (xs (4 * j + 1)), .int (xs (4 * j + 2))]) (rest := []) C.1 (kc_ES_stop l E h1) (cwV 2 C.1.2.2.2.2 (xw_V m_720 m_721 m_722 m_106 m_723) rfl rfl rfl ky_ES_stop ⟨(Nat.le_of_ble_eq_true rfl), (Nat.le_of_ble_eq_true rfl)⟩) (xr_pV C X xc_ES.1 (xk_Xo ho (by decide))) rfl rfl hl.1 rfl (lv_room (Nat.le_of_ble_eq_true rfl)) d_Law_465 ⟨by omega, by omega⟩) X (fun H locs X => ?_)
  refine lv_aload_n hx hb d_Law_468 rfl (lv_at hl 2 rfl) ?_
  refine lv_aload_n hx hb d_Law_469 rfl (lv_at hl 0 rfl) ?_
  refine lv_iload_n hx hb d_Law_470 rfl (lv_at hl 3 rfl) ?_
  refine lv_iconst hx hb d_Law_471 kn_i_1 ?_
  refine lv_iadd hx hb d_Law_472 ?_
  refine lo_sld hx hb hX hbl hbA X.2 (lo_ix j 1) (q := 4 * j + 1) (by omega) hL d_Law_473 ?_
  refine lv_aload_n hx hb d_Law_474 rfl (lv_at hl 0 rfl) ?_
  refine lv_iload_n hx hb d_Law_475 rfl (lv_at hl 3 rfl) ?_
  refine lv_iconst hx hb d_Law_476 kn_i_2 ?_
  refine lv_iadd hx hb d_Law_477 ?_
  refine lo_sld hx hb hX hbl hbA X.2 (lo_ix j 2) (q := 4 * j + 2) (by omega) hL d_Law_478 ?_
  refine xr_ki (va_runV (As := [.int (xs (4 * j + 1)), .int (xs (4 * j + 2))]) (rest := [.int r]) C.1 (kc_EM_stop l E hg h2) (cwV 2 C.1.2.2.2.2 (xw_V m_724 m_725 m_726 m_521 m_727) rfl rfl rfl ky_EM_stop ⟨(Nat.le_of_ble_eq_true rfl), (Nat.le_of_ble_eq_true rfl)⟩) (xr_pV C X xc_EM.1 (xk_Xw (X.1.2.2.2.2.2 hg).1)) rfl rfl hl.1 rfl (lv_room (Nat.le_of_ble_eq_true rfl)) d_Law_479 ⟨by omega, by omega⟩) X (fun H locs X => ?_)
  refine lv_icmp_eq (tgt := 714) hx hb d_Law_482 (by decide +kernel) (fun _ => ?_) (fun hc => absurd rfl hc)
  exact W.widen (by omega) (by omega) (kk H locs X)
set_option maxHeartbeats 4000000 in
set_option maxRecDepth 100000 in
theorem lc_13 {r : Int32} (C : xx_C p m c code 4 s args Rn_Law E) (hg : xe_g E = true) (X : xx_S E K M s H locs) (hX : va_X b L xs s s.heap) (hbl : b < s.heap.size) (hbA : ¬ xe_A E b) (hl : lv_has ls 4 [(0, .ref b), (1, .ref o), (2, .ref (xe_om E)), (3, .int (nI (4 * j)))]) (hj : 4 * j + 4 ≤ L) (hL : L ≤ 2048) (ho : xk_kd K o = 0 + 1) (h1 : kf_ES_start_0 K o (xs (4 * j + 1)) (xs (4 * j + 2)) = some (r, K')) (h2 : kf_EM_start_0 M (xs (4 * j + 1)) (xs (4 * j + 2)) = some (r, M')) (hc : cells + 4 ≤ room_1.cells) (hs : slots + 36 ≤ room_1.slots) (kk : ∀ (H : Heap) (locs : List Loc), xx_S E K' M' s H locs → W p l e room_1 s m args below meth c H locs (cells + 4) (slots + 36) Q (F0 m 714 ls [])) : W p l e room_1 s m args below meth c H locs cells slots Q (F0 m 487 ls []) := by
  have hx := C.1.1
  have hb := C.1.2.1
  refine lv_aload_n hx hb d_Law_487 rfl (lv_at hl 1 rfl) ?_
  refine lv_aload_n hx hb d_Law_488 rfl (lv_at hl 0 rfl) ?_
  refine lv_iload_n hx hb d_Law_489 rfl (lv_at hl 3 rfl) ?_
  refine lv_iconst hx hb d_Law_490 kn_i_1 ?_
  refine lv_iadd hx hb d_Law_491 ?_
  refine lo_sld hx hb hX hbl hbA X.2 (lo_ix j 1) (q := 4 * j + 1) (by omega) hL d_Law_492 ?_
  refine lv_aload_n hx hb d_Law_493 rfl (lv_at hl 0 rfl) ?_
  refine lv_iload_n hx hb d_Law_494 rfl (lv_at hl 3 rfl) ?_
  refine lv_iconst hx hb d_Law_495 kn_i_2 ?_
  refine lv_iadd hx hb d_Law_496 ?_
  refine lo_sld hx hb hX hbl hbA X.2 (lo_ix j 2) (q := 4 * j + 2) (by omega) hL d_Law_497 ?_
  refine xr_ki (va_runV (As := [.int (xs (4 * j + 1)), .int (xs (4 * j + 2))]) (rest := []) C.1 (kc_ES_start l E h1) (cwV 2 C.1.2.2.2.2 (xw_V m_728 m_729 m_730 m_106 m_731) rfl rfl rfl ky_ES_start ⟨(Nat.le_of_ble_eq_true rfl), (Nat.le_of_ble_eq_true rfl)⟩) (xr_pV C X xc_ES.1 (xk_Xo ho (by decide))) rfl rfl hl.1 rfl (lv_room (Nat.le_of_ble_eq_true rfl)) d_Law_498 ⟨by omega, by omega⟩) X (fun H locs X => ?_)
  refine lv_aload_n hx hb d_Law_501 rfl (lv_at hl 2 rfl) ?_
  refine lv_aload_n hx hb d_Law_502 rfl (lv_at hl 0 rfl) ?_
  refine lv_iload_n hx hb d_Law_503 rfl (lv_at hl 3 rfl) ?_
  refine lv_iconst hx hb d_Law_504 kn_i_1 ?_
  refine lv_iadd hx hb d_Law_505 ?_
  refine lo_sld hx hb hX hbl hbA X.2 (lo_ix j 1) (q := 4 * j + 1) (by omega) hL d_Law_506 ?_
  refine lv_aload_n hx hb d_Law_507 rfl (lv_at hl 0 rfl) ?_
  refine lv_iload_n hx hb d_Law_508 rfl (lv_at hl 3 rfl) ?_
  refine lv_iconst hx hb d_Law_509 kn_i_2 ?_
  refine lv_iadd hx hb d_Law_510 ?_
  refine lo_sld hx hb hX hbl hbA X.2 (lo_ix j 2) (q := 4 * j + 2) (by omega) hL d_Law_511 ?_
  refine xr_ki (va_runV (As := [.int (xs (4 * j + 1)), .int (xs (4 * j + 2))]) (rest := [.int r]) C.1 (kc_EM_start l E hg h2) (cwV 2 C.1.2.2.2.2 (xw_V m_732 m_733 m_734 m_521 m_735) rfl rfl rfl ky_EM_start ⟨(Nat.le_of_ble_eq_true rfl), (Nat.le_of_ble_eq_true rfl)⟩) (xr_pV C X xc_EM.1 (xk_Xw (X.1.2.2.2.2.2 hg).1)) rfl rfl hl.1 rfl (lv_room (Nat.le_of_ble_eq_true rfl)) d_Law_512 ⟨by omega, by omega⟩) X (fun H locs X => ?_)
  refine lv_icmp_eq (tgt := 714) hx hb d_Law_515 (by decide +kernel) (fun _ => ?_) (fun hc => absurd rfl hc)
  exact W.widen (by omega) (by omega) (kk H locs X)
set_option maxHeartbeats 4000000 in
set_option maxRecDepth 100000 in
theorem lc_14 {r : Int32} (C : xx_C p m c code 4 s args Rn_Law E) (hg : xe_g E = true) (X : xx_S E K M s H locs) (hX : va_X b L xs s s.heap) (hbl : b < s.heap.size) (hbA : ¬ xe_A E b) (hl : lv_has ls 4 [(0, .ref b), (1, .ref o), (2, .ref (xe_om E)), (3, .int (nI (4 * j)))]) (hj : 4 * j + 4 ≤ L) (hL : L ≤ 2048) (ho : xk_kd K o = 0 + 1) (h1 : kf_ES_pull_0 K o (xs (4 * j + 1)) (xs (4 * j + 2)) = some (r, K')) (h2 : kf_EM_pull_0 M (xs (4 * j + 1)) (xs (4 * j + 2)) = some (r, M')) (hc : cells + 4 ≤ room_1.cells) (hs : slots + 36 ≤ room_1.slots) (kk : ∀ (H : Heap) (locs : List Loc), xx_S E K' M' s H locs → W p l e room_1 s m args below meth c H locs (cells + 4) (slots + 36) Q (F0 m 714 ls [])) : W p l e room_1 s m args below meth c H locs cells slots Q (F0 m 520 ls []) := by
  have hx := C.1.1
  have hb := C.1.2.1
  refine lv_aload_n hx hb d_Law_520 rfl (lv_at hl 1 rfl) ?_
  refine lv_aload_n hx hb d_Law_521 rfl (lv_at hl 0 rfl) ?_
  refine lv_iload_n hx hb d_Law_522 rfl (lv_at hl 3 rfl) ?_
  refine lv_iconst hx hb d_Law_523 kn_i_1 ?_
  refine lv_iadd hx hb d_Law_524 ?_
  refine lo_sld hx hb hX hbl hbA X.2 (lo_ix j 1) (q := 4 * j + 1) (by omega) hL d_Law_525 ?_
  refine lv_aload_n hx hb d_Law_526 rfl (lv_at hl 0 rfl) ?_
  refine lv_iload_n hx hb d_Law_527 rfl (lv_at hl 3 rfl) ?_
  refine lv_iconst hx hb d_Law_528 kn_i_2 ?_
  refine lv_iadd hx hb d_Law_529 ?_
  refine lo_sld hx hb hX hbl hbA X.2 (lo_ix j 2) (q := 4 * j + 2) (by omega) hL d_Law_530 ?_
  refine xr_ki (va_runV (As := [.int (xs (4 * j + 1)), .int (xs (4 * j + 2))]) (rest := []) C.1 (kc_ES_pull l E h1) (cwV 2 C.1.2.2.2.2 (xw_V m_736 m_737 m_738 m_106 m_739) rfl rfl rfl ky_ES_pull ⟨(Nat.le_of_ble_eq_true rfl), (Nat.le_of_ble_eq_true rfl)⟩) (xr_pV C X xc_ES.1 (xk_Xo ho (by decide))) rfl rfl hl.1 rfl (lv_room (Nat.le_of_ble_eq_true rfl)) d_Law_531 ⟨by omega, by omega⟩) X (fun H locs X => ?_)
  refine lv_aload_n hx hb d_Law_534 rfl (lv_at hl 2 rfl) ?_
  refine lv_aload_n hx hb d_Law_535 rfl (lv_at hl 0 rfl) ?_
  refine lv_iload_n hx hb d_Law_536 rfl (lv_at hl 3 rfl) ?_
  refine lv_iconst hx hb d_Law_537 kn_i_1 ?_
  refine lv_iadd hx hb d_Law_538 ?_
  refine lo_sld hx hb hX hbl hbA X.2 (lo_ix j 1) (q := 4 * j + 1) (by omega) hL d_Law_539 ?_
  refine lv_aload_n hx hb d_Law_540 rfl (lv_at hl 0 rfl) ?_
  refine lv_iload_n hx hb d_Law_541 rfl (lv_at hl 3 rfl) ?_
  refine lv_iconst hx hb d_Law_542 kn_i_2 ?_
  refine lv_iadd hx hb d_Law_543 ?_
  refine lo_sld hx hb hX hbl hbA X.2 (lo_ix j 2) (q := 4 * j + 2) (by omega) hL d_Law_544 ?_
  refine xr_ki (va_runV (As := [.int (xs (4 * j + 1)), .int (xs (4 * j + 2))]) (rest := [.int r]) C.1 (kc_EM_pull l E hg h2) (cwV 2 C.1.2.2.2.2 (xw_V m_740 m_741 m_742 m_521 m_743) rfl rfl rfl ky_EM_pull ⟨(Nat.le_of_ble_eq_true rfl), (Nat.le_of_ble_eq_true rfl)⟩) (xr_pV C X xc_EM.1 (xk_Xw (X.1.2.2.2.2.2 hg).1)) rfl rfl hl.1 rfl (lv_room (Nat.le_of_ble_eq_true rfl)) d_Law_545 ⟨by omega, by omega⟩) X (fun H locs X => ?_)
  refine lv_icmp_eq (tgt := 714) hx hb d_Law_548 (by decide +kernel) (fun _ => ?_) (fun hc => absurd rfl hc)
  exact W.widen (by omega) (by omega) (kk H locs X)
set_option maxHeartbeats 4000000 in
set_option maxRecDepth 100000 in
theorem lc_15 {r : Int32} (C : xx_C p m c code 4 s args Rn_Law E) (hg : xe_g E = true) (X : xx_S E K M s H locs) (hX : va_X b L xs s s.heap) (hbl : b < s.heap.size) (hbA : ¬ xe_A E b) (hl : lv_has ls 4 [(0, .ref b), (1, .ref o), (2, .ref (xe_om E)), (3, .int (nI (4 * j)))]) (hj : 4 * j + 4 ≤ L) (hL : L ≤ 2048) (ho : xk_kd K o = 0 + 1) (h1 : kf_ES_push_0 K o (xs (4 * j + 1)) = some (r, K')) (h2 : kf_EM_push_0 M (xs (4 * j + 1)) = some (r, M')) (hc : cells + 4 ≤ room_1.cells) (hs : slots + 36 ≤ room_1.slots) (kk : ∀ (H : Heap) (locs : List Loc), xx_S E K' M' s H locs → W p l e room_1 s m args below meth c H locs (cells + 4) (slots + 36) Q (F0 m 714 ls [])) : W p l e room_1 s m args below meth c H locs cells slots Q (F0 m 553 ls []) := by
  have hx := C.1.1
  have hb := C.1.2.1
  refine lv_aload_n hx hb d_Law_553 rfl (lv_at hl 1 rfl) ?_
  refine lv_aload_n hx hb d_Law_554 rfl (lv_at hl 0 rfl) ?_
  refine lv_iload_n hx hb d_Law_555 rfl (lv_at hl 3 rfl) ?_
  refine lv_iconst hx hb d_Law_556 kn_i_1 ?_
  refine lv_iadd hx hb d_Law_557 ?_
  refine lo_sld hx hb hX hbl hbA X.2 (lo_ix j 1) (q := 4 * j + 1) (by omega) hL d_Law_558 ?_
  refine xr_ki (va_runV (As := [.int (xs (4 * j + 1))]) (rest := []) C.1 (kc_ES_push l E h1) (cwV 1 C.1.2.2.2.2 (xw_V m_744 m_745 m_746 m_106 m_747) rfl rfl rfl ky_ES_push ⟨(Nat.le_of_ble_eq_true rfl), (Nat.le_of_ble_eq_true rfl)⟩) (xr_pV C X xc_ES.1 (xk_Xo ho (by decide))) rfl rfl hl.1 rfl (lv_room (Nat.le_of_ble_eq_true rfl)) d_Law_559 ⟨by omega, by omega⟩) X (fun H locs X => ?_)
  refine lv_aload_n hx hb d_Law_562 rfl (lv_at hl 2 rfl) ?_
  refine lv_aload_n hx hb d_Law_563 rfl (lv_at hl 0 rfl) ?_
  refine lv_iload_n hx hb d_Law_564 rfl (lv_at hl 3 rfl) ?_
  refine lv_iconst hx hb d_Law_565 kn_i_1 ?_
  refine lv_iadd hx hb d_Law_566 ?_
  refine lo_sld hx hb hX hbl hbA X.2 (lo_ix j 1) (q := 4 * j + 1) (by omega) hL d_Law_567 ?_
  refine xr_ki (va_runV (As := [.int (xs (4 * j + 1))]) (rest := [.int r]) C.1 (kc_EM_push l E hg h2) (cwV 1 C.1.2.2.2.2 (xw_V m_748 m_749 m_750 m_521 m_751) rfl rfl rfl ky_EM_push ⟨(Nat.le_of_ble_eq_true rfl), (Nat.le_of_ble_eq_true rfl)⟩) (xr_pV C X xc_EM.1 (xk_Xw (X.1.2.2.2.2.2 hg).1)) rfl rfl hl.1 rfl (lv_room (Nat.le_of_ble_eq_true rfl)) d_Law_568 ⟨by omega, by omega⟩) X (fun H locs X => ?_)
  refine lv_icmp_eq (tgt := 714) hx hb d_Law_571 (by decide +kernel) (fun _ => ?_) (fun hc => absurd rfl hc)
  exact W.widen (by omega) (by omega) (kk H locs X)
set_option maxHeartbeats 4000000 in
set_option maxRecDepth 100000 in
theorem lc_16 {r : Int32} (C : xx_C p m c code 4 s args Rn_Law E) (hg : xe_g E = true) (X : xx_S E K M s H locs) (hX : va_X b L xs s s.heap) (hbl : b < s.heap.size) (hbA : ¬ xe_A E b) (hl : lv_has ls 4 [(0, .ref b), (1, .ref o), (2, .ref (xe_om E)), (3, .int (nI (4 * j)))]) (hj : 4 * j + 4 ≤ L) (hL : L ≤ 2048) (ho : xk_kd K o = 0 + 1) (h1 : kf_ES_recover_0 K o (xs (4 * j + 1)) = some (r, K')) (h2 : kf_EM_recover_0 M (xs (4 * j + 1)) = some (r, M')) (hc : cells + 4 ≤ room_1.cells) (hs : slots + 36 ≤ room_1.slots) (kk : ∀ (H : Heap) (locs : List Loc), xx_S E K' M' s H locs → W p l e room_1 s m args below meth c H locs (cells + 4) (slots + 36) Q (F0 m 714 ls [])) : W p l e room_1 s m args below meth c H locs cells slots Q (F0 m 576 ls []) := by
  have hx := C.1.1
  have hb := C.1.2.1
  refine lv_aload_n hx hb d_Law_576 rfl (lv_at hl 1 rfl) ?_
  refine lv_aload_n hx hb d_Law_577 rfl (lv_at hl 0 rfl) ?_
  refine lv_iload_n hx hb d_Law_578 rfl (lv_at hl 3 rfl) ?_
  refine lv_iconst hx hb d_Law_579 kn_i_1 ?_
  refine lv_iadd hx hb d_Law_580 ?_
  refine lo_sld hx hb hX hbl hbA X.2 (lo_ix j 1) (q := 4 * j + 1) (by omega) hL d_Law_581 ?_
  refine xr_ki (va_runV (As := [.int (xs (4 * j + 1))]) (rest := []) C.1 (kc_ES_recover l E h1) (cwV 1 C.1.2.2.2.2 (xw_V m_752 m_753 m_754 m_106 m_755) rfl rfl rfl ky_ES_recover ⟨(Nat.le_of_ble_eq_true rfl), (Nat.le_of_ble_eq_true rfl)⟩) (xr_pV C X xc_ES.1 (xk_Xo ho (by decide))) rfl rfl hl.1 rfl (lv_room (Nat.le_of_ble_eq_true rfl)) d_Law_582 ⟨by omega, by omega⟩) X (fun H locs X => ?_)
  refine lv_aload_n hx hb d_Law_585 rfl (lv_at hl 2 rfl) ?_
  refine lv_aload_n hx hb d_Law_586 rfl (lv_at hl 0 rfl) ?_
  refine lv_iload_n hx hb d_Law_587 rfl (lv_at hl 3 rfl) ?_
  refine lv_iconst hx hb d_Law_588 kn_i_1 ?_
  refine lv_iadd hx hb d_Law_589 ?_
  refine lo_sld hx hb hX hbl hbA X.2 (lo_ix j 1) (q := 4 * j + 1) (by omega) hL d_Law_590 ?_
  refine xr_ki (va_runV (As := [.int (xs (4 * j + 1))]) (rest := [.int r]) C.1 (kc_EM_recover l E hg h2) (cwV 1 C.1.2.2.2.2 (xw_V m_756 m_757 m_758 m_521 m_759) rfl rfl rfl ky_EM_recover ⟨(Nat.le_of_ble_eq_true rfl), (Nat.le_of_ble_eq_true rfl)⟩) (xr_pV C X xc_EM.1 (xk_Xw (X.1.2.2.2.2.2 hg).1)) rfl rfl hl.1 rfl (lv_room (Nat.le_of_ble_eq_true rfl)) d_Law_591 ⟨by omega, by omega⟩) X (fun H locs X => ?_)
  refine lv_icmp_eq (tgt := 714) hx hb d_Law_594 (by decide +kernel) (fun _ => ?_) (fun hc => absurd rfl hc)
  exact W.widen (by omega) (by omega) (kk H locs X)
set_option maxHeartbeats 4000000 in
set_option maxRecDepth 100000 in
theorem lc_17 {r : Int32} (C : xx_C p m c code 4 s args Rn_Law E) (hg : xe_g E = true) (X : xx_S E K M s H locs) (hX : va_X b L xs s s.heap) (hbl : b < s.heap.size) (hbA : ¬ xe_A E b) (hl : lv_has ls 4 [(0, .ref b), (1, .ref o), (2, .ref (xe_om E)), (3, .int (nI (4 * j)))]) (hj : 4 * j + 4 ≤ L) (hL : L ≤ 2048) (ho : xk_kd K o = 0 + 1) (h1 : kf_ES_log_0 K o (xs (4 * j + 1)) = some (r, K')) (h2 : kf_EM_log_0 M (xs (4 * j + 1)) = some (r, M')) (hc : cells + 4 ≤ room_1.cells) (hs : slots + 36 ≤ room_1.slots) (kk : ∀ (H : Heap) (locs : List Loc), xx_S E K' M' s H locs → W p l e room_1 s m args below meth c H locs (cells + 4) (slots + 36) Q (F0 m 714 ls [])) : W p l e room_1 s m args below meth c H locs cells slots Q (F0 m 599 ls []) := by
  have hx := C.1.1
  have hb := C.1.2.1
  refine lv_aload_n hx hb d_Law_599 rfl (lv_at hl 1 rfl) ?_
  refine lv_aload_n hx hb d_Law_600 rfl (lv_at hl 0 rfl) ?_
  refine lv_iload_n hx hb d_Law_601 rfl (lv_at hl 3 rfl) ?_
  refine lv_iconst hx hb d_Law_602 kn_i_1 ?_
  refine lv_iadd hx hb d_Law_603 ?_
  refine lo_sld hx hb hX hbl hbA X.2 (lo_ix j 1) (q := 4 * j + 1) (by omega) hL d_Law_604 ?_
  refine xr_ki (va_runV (As := [.int (xs (4 * j + 1))]) (rest := []) C.1 (kc_ES_log l E h1) (cwV 1 C.1.2.2.2.2 (xw_V m_760 m_761 m_762 m_106 m_763) rfl rfl rfl ky_ES_log ⟨(Nat.le_of_ble_eq_true rfl), (Nat.le_of_ble_eq_true rfl)⟩) (xr_pV C X xc_ES.1 (xk_Xo ho (by decide))) rfl rfl hl.1 rfl (lv_room (Nat.le_of_ble_eq_true rfl)) d_Law_605 ⟨by omega, by omega⟩) X (fun H locs X => ?_)
  refine lv_aload_n hx hb d_Law_608 rfl (lv_at hl 2 rfl) ?_
  refine lv_aload_n hx hb d_Law_609 rfl (lv_at hl 0 rfl) ?_
  refine lv_iload_n hx hb d_Law_610 rfl (lv_at hl 3 rfl) ?_
  refine lv_iconst hx hb d_Law_611 kn_i_1 ?_
  refine lv_iadd hx hb d_Law_612 ?_
  refine lo_sld hx hb hX hbl hbA X.2 (lo_ix j 1) (q := 4 * j + 1) (by omega) hL d_Law_613 ?_
  refine xr_ki (va_runV (As := [.int (xs (4 * j + 1))]) (rest := [.int r]) C.1 (kc_EM_log l E hg h2) (cwV 1 C.1.2.2.2.2 (xw_V m_764 m_765 m_766 m_521 m_767) rfl rfl rfl ky_EM_log ⟨(Nat.le_of_ble_eq_true rfl), (Nat.le_of_ble_eq_true rfl)⟩) (xr_pV C X xc_EM.1 (xk_Xw (X.1.2.2.2.2.2 hg).1)) rfl rfl hl.1 rfl (lv_room (Nat.le_of_ble_eq_true rfl)) d_Law_614 ⟨by omega, by omega⟩) X (fun H locs X => ?_)
  refine lv_icmp_eq (tgt := 714) hx hb d_Law_617 (by decide +kernel) (fun _ => ?_) (fun hc => absurd rfl hc)
  exact W.widen (by omega) (by omega) (kk H locs X)
set_option maxHeartbeats 4000000 in
set_option maxRecDepth 100000 in
theorem lc_18 {r : Int32} (C : xx_C p m c code 4 s args Rn_Law E) (hg : xe_g E = true) (X : xx_S E K M s H locs) (hX : va_X b L xs s s.heap) (hbl : b < s.heap.size) (hbA : ¬ xe_A E b) (hl : lv_has ls 4 [(0, .ref b), (1, .ref o), (2, .ref (xe_om E)), (3, .int (nI (4 * j)))]) (hj : 4 * j + 4 ≤ L) (hL : L ≤ 2048) (ho : xk_kd K o = 0 + 1) (h1 : kf_ES_storage_0 K o (xs (4 * j + 1)) = some (r, K')) (h2 : kf_EM_storage_0 M (xs (4 * j + 1)) = some (r, M')) (hc : cells + 4 ≤ room_1.cells) (hs : slots + 36 ≤ room_1.slots) (kk : ∀ (H : Heap) (locs : List Loc), xx_S E K' M' s H locs → W p l e room_1 s m args below meth c H locs (cells + 4) (slots + 36) Q (F0 m 714 ls [])) : W p l e room_1 s m args below meth c H locs cells slots Q (F0 m 622 ls []) := by
  have hx := C.1.1
  have hb := C.1.2.1
  refine lv_aload_n hx hb d_Law_622 rfl (lv_at hl 1 rfl) ?_
  refine lv_aload_n hx hb d_Law_623 rfl (lv_at hl 0 rfl) ?_
  refine lv_iload_n hx hb d_Law_624 rfl (lv_at hl 3 rfl) ?_
  refine lv_iconst hx hb d_Law_625 kn_i_1 ?_
  refine lv_iadd hx hb d_Law_626 ?_
  refine lo_sld hx hb hX hbl hbA X.2 (lo_ix j 1) (q := 4 * j + 1) (by omega) hL d_Law_627 ?_
  refine xr_ki (va_runV (As := [.int (xs (4 * j + 1))]) (rest := []) C.1 (kc_ES_storage l E h1) (cwV 1 C.1.2.2.2.2 (xw_V m_768 m_769 m_770 m_106 m_771) rfl rfl rfl ky_ES_storage ⟨(Nat.le_of_ble_eq_true rfl), (Nat.le_of_ble_eq_true rfl)⟩) (xr_pV C X xc_ES.1 (xk_Xo ho (by decide))) rfl rfl hl.1 rfl (lv_room (Nat.le_of_ble_eq_true rfl)) d_Law_628 ⟨by omega, by omega⟩) X (fun H locs X => ?_)
  refine lv_aload_n hx hb d_Law_631 rfl (lv_at hl 2 rfl) ?_
  refine lv_aload_n hx hb d_Law_632 rfl (lv_at hl 0 rfl) ?_
  refine lv_iload_n hx hb d_Law_633 rfl (lv_at hl 3 rfl) ?_
  refine lv_iconst hx hb d_Law_634 kn_i_1 ?_
  refine lv_iadd hx hb d_Law_635 ?_
  refine lo_sld hx hb hX hbl hbA X.2 (lo_ix j 1) (q := 4 * j + 1) (by omega) hL d_Law_636 ?_
  refine xr_ki (va_runV (As := [.int (xs (4 * j + 1))]) (rest := [.int r]) C.1 (kc_EM_storage l E hg h2) (cwV 1 C.1.2.2.2.2 (xw_V m_772 m_773 m_774 m_521 m_775) rfl rfl rfl ky_EM_storage ⟨(Nat.le_of_ble_eq_true rfl), (Nat.le_of_ble_eq_true rfl)⟩) (xr_pV C X xc_EM.1 (xk_Xw (X.1.2.2.2.2.2 hg).1)) rfl rfl hl.1 rfl (lv_room (Nat.le_of_ble_eq_true rfl)) d_Law_637 ⟨by omega, by omega⟩) X (fun H locs X => ?_)
  refine lv_icmp_eq (tgt := 714) hx hb d_Law_640 (by decide +kernel) (fun _ => ?_) (fun hc => absurd rfl hc)
  exact W.widen (by omega) (by omega) (kk H locs X)
set_option maxHeartbeats 4000000 in
set_option maxRecDepth 100000 in
theorem lc_19 {r : Int32} (C : xx_C p m c code 4 s args Rn_Law E) (hg : xe_g E = true) (X : xx_S E K M s H locs) (hX : va_X b L xs s s.heap) (hbl : b < s.heap.size) (hbA : ¬ xe_A E b) (hl : lv_has ls 4 [(0, .ref b), (1, .ref o), (2, .ref (xe_om E)), (3, .int (nI (4 * j)))]) (hj : 4 * j + 4 ≤ L) (hL : L ≤ 2048) (ho : xk_kd K o = 0 + 1) (h1 : kf_ES_master_0 K o (xs (4 * j + 1)) = some (r, K')) (h2 : kf_EM_master_0 M (xs (4 * j + 1)) = some (r, M')) (hc : cells + 4 ≤ room_1.cells) (hs : slots + 36 ≤ room_1.slots) (kk : ∀ (H : Heap) (locs : List Loc), xx_S E K' M' s H locs → W p l e room_1 s m args below meth c H locs (cells + 4) (slots + 36) Q (F0 m 714 ls [])) : W p l e room_1 s m args below meth c H locs cells slots Q (F0 m 645 ls []) := by
  have hx := C.1.1
  have hb := C.1.2.1
  refine lv_aload_n hx hb d_Law_645 rfl (lv_at hl 1 rfl) ?_
  refine lv_aload_n hx hb d_Law_646 rfl (lv_at hl 0 rfl) ?_
  refine lv_iload_n hx hb d_Law_647 rfl (lv_at hl 3 rfl) ?_
  refine lv_iconst hx hb d_Law_648 kn_i_1 ?_
  refine lv_iadd hx hb d_Law_649 ?_
  refine lo_sld hx hb hX hbl hbA X.2 (lo_ix j 1) (q := 4 * j + 1) (by omega) hL d_Law_650 ?_
  refine xr_ki (va_runV (As := [.int (xs (4 * j + 1))]) (rest := []) C.1 (kc_ES_master l E h1) (cwV 1 C.1.2.2.2.2 (xw_V m_776 m_777 m_778 m_106 m_779) rfl rfl rfl ky_ES_master ⟨(Nat.le_of_ble_eq_true rfl), (Nat.le_of_ble_eq_true rfl)⟩) (xr_pV C X xc_ES.1 (xk_Xo ho (by decide))) rfl rfl hl.1 rfl (lv_room (Nat.le_of_ble_eq_true rfl)) d_Law_651 ⟨by omega, by omega⟩) X (fun H locs X => ?_)
  refine lv_aload_n hx hb d_Law_654 rfl (lv_at hl 2 rfl) ?_
  refine lv_aload_n hx hb d_Law_655 rfl (lv_at hl 0 rfl) ?_
  refine lv_iload_n hx hb d_Law_656 rfl (lv_at hl 3 rfl) ?_
  refine lv_iconst hx hb d_Law_657 kn_i_1 ?_
  refine lv_iadd hx hb d_Law_658 ?_
  refine lo_sld hx hb hX hbl hbA X.2 (lo_ix j 1) (q := 4 * j + 1) (by omega) hL d_Law_659 ?_
  refine xr_ki (va_runV (As := [.int (xs (4 * j + 1))]) (rest := [.int r]) C.1 (kc_EM_master l E hg h2) (cwV 1 C.1.2.2.2.2 (xw_V m_780 m_781 m_782 m_521 m_783) rfl rfl rfl ky_EM_master ⟨(Nat.le_of_ble_eq_true rfl), (Nat.le_of_ble_eq_true rfl)⟩) (xr_pV C X xc_EM.1 (xk_Xw (X.1.2.2.2.2.2 hg).1)) rfl rfl hl.1 rfl (lv_room (Nat.le_of_ble_eq_true rfl)) d_Law_660 ⟨by omega, by omega⟩) X (fun H locs X => ?_)
  refine lv_icmp_eq (tgt := 714) hx hb d_Law_663 (by decide +kernel) (fun _ => ?_) (fun hc => absurd rfl hc)
  exact W.widen (by omega) (by omega) (kk H locs X)
set_option maxHeartbeats 4000000 in
set_option maxRecDepth 100000 in
theorem lc_20 {r : Int32} (C : xx_C p m c code 4 s args Rn_Law E) (hg : xe_g E = true) (X : xx_S E K M s H locs) (hX : va_X b L xs s s.heap) (hbl : b < s.heap.size) (hbA : ¬ xe_A E b) (hl : lv_has ls 4 [(0, .ref b), (1, .ref o), (2, .ref (xe_om E)), (3, .int (nI (4 * j)))]) (hj : 4 * j + 4 ≤ L) (hL : L ≤ 2048) (ho : xk_kd K o = 0 + 1) (h1 : kf_ES_committed_0 K o (xs (4 * j + 1)) = some (r, K')) (h2 : kf_EM_committed_0 M (xs (4 * j + 1)) = some (r, M')) (hc : cells + 4 ≤ room_1.cells) (hs : slots + 36 ≤ room_1.slots) (kk : ∀ (H : Heap) (locs : List Loc), xx_S E K' M' s H locs → W p l e room_1 s m args below meth c H locs (cells + 4) (slots + 36) Q (F0 m 714 ls [])) : W p l e room_1 s m args below meth c H locs cells slots Q (F0 m 668 ls []) := by
  have hx := C.1.1
  have hb := C.1.2.1
  refine lv_aload_n hx hb d_Law_668 rfl (lv_at hl 1 rfl) ?_
  refine lv_aload_n hx hb d_Law_669 rfl (lv_at hl 0 rfl) ?_
  refine lv_iload_n hx hb d_Law_670 rfl (lv_at hl 3 rfl) ?_
  refine lv_iconst hx hb d_Law_671 kn_i_1 ?_
  refine lv_iadd hx hb d_Law_672 ?_
  refine lo_sld hx hb hX hbl hbA X.2 (lo_ix j 1) (q := 4 * j + 1) (by omega) hL d_Law_673 ?_
  refine xr_ki (va_runV (As := [.int (xs (4 * j + 1))]) (rest := []) C.1 (kc_ES_committed l E h1) (cwV 1 C.1.2.2.2.2 (xw_V m_784 m_785 m_786 m_106 m_787) rfl rfl rfl ky_ES_committed ⟨(Nat.le_of_ble_eq_true rfl), (Nat.le_of_ble_eq_true rfl)⟩) (xr_pV C X xc_ES.1 (xk_Xo ho (by decide))) rfl rfl hl.1 rfl (lv_room (Nat.le_of_ble_eq_true rfl)) d_Law_674 ⟨by omega, by omega⟩) X (fun H locs X => ?_)
  refine lv_aload_n hx hb d_Law_677 rfl (lv_at hl 2 rfl) ?_
  refine lv_aload_n hx hb d_Law_678 rfl (lv_at hl 0 rfl) ?_
  refine lv_iload_n hx hb d_Law_679 rfl (lv_at hl 3 rfl) ?_
  refine lv_iconst hx hb d_Law_680 kn_i_1 ?_
  refine lv_iadd hx hb d_Law_681 ?_
  refine lo_sld hx hb hX hbl hbA X.2 (lo_ix j 1) (q := 4 * j + 1) (by omega) hL d_Law_682 ?_
  refine xr_ki (va_runV (As := [.int (xs (4 * j + 1))]) (rest := [.int r]) C.1 (kc_EM_committed l E hg h2) (cwV 1 C.1.2.2.2.2 (xw_V m_788 m_789 m_790 m_521 m_791) rfl rfl rfl ky_EM_committed ⟨(Nat.le_of_ble_eq_true rfl), (Nat.le_of_ble_eq_true rfl)⟩) (xr_pV C X xc_EM.1 (xk_Xw (X.1.2.2.2.2.2 hg).1)) rfl rfl hl.1 rfl (lv_room (Nat.le_of_ble_eq_true rfl)) d_Law_683 ⟨by omega, by omega⟩) X (fun H locs X => ?_)
  refine lv_icmp_eq (tgt := 714) hx hb d_Law_686 (by decide +kernel) (fun _ => ?_) (fun hc => absurd rfl hc)
  exact W.widen (by omega) (by omega) (kk H locs X)
set_option maxHeartbeats 4000000 in
set_option maxRecDepth 100000 in
theorem lc_21 {r : Int32} (C : xx_C p m c code 4 s args Rn_Law E) (hg : xe_g E = true) (X : xx_S E K M s H locs) (hX : va_X b L xs s s.heap) (hbl : b < s.heap.size) (hbA : ¬ xe_A E b) (hl : lv_has ls 4 [(0, .ref b), (1, .ref o), (2, .ref (xe_om E)), (3, .int (nI (4 * j)))]) (hj : 4 * j + 4 ≤ L) (hL : L ≤ 2048) (ho : xk_kd K o = 0 + 1) (h1 : kf_ES_coordinator_0 K o (xs (4 * j + 1)) = some (r, K')) (h2 : kf_EM_coordinator_0 M (xs (4 * j + 1)) = some (r, M')) (hc : cells + 4 ≤ room_1.cells) (hs : slots + 36 ≤ room_1.slots) (kk : ∀ (H : Heap) (locs : List Loc), xx_S E K' M' s H locs → W p l e room_1 s m args below meth c H locs (cells + 4) (slots + 36) Q (F0 m 714 ls [])) : W p l e room_1 s m args below meth c H locs cells slots Q (F0 m 691 ls []) := by
  have hx := C.1.1
  have hb := C.1.2.1
  refine lv_aload_n hx hb d_Law_691 rfl (lv_at hl 1 rfl) ?_
  refine lv_aload_n hx hb d_Law_692 rfl (lv_at hl 0 rfl) ?_
  refine lv_iload_n hx hb d_Law_693 rfl (lv_at hl 3 rfl) ?_
  refine lv_iconst hx hb d_Law_694 kn_i_1 ?_
  refine lv_iadd hx hb d_Law_695 ?_
  refine lo_sld hx hb hX hbl hbA X.2 (lo_ix j 1) (q := 4 * j + 1) (by omega) hL d_Law_696 ?_
  refine xr_ki (va_runV (As := [.int (xs (4 * j + 1))]) (rest := []) C.1 (kc_ES_coordinator l E h1) (cwV 1 C.1.2.2.2.2 (xw_V m_792 m_793 m_794 m_106 m_795) rfl rfl rfl ky_ES_coordinator ⟨(Nat.le_of_ble_eq_true rfl), (Nat.le_of_ble_eq_true rfl)⟩) (xr_pV C X xc_ES.1 (xk_Xo ho (by decide))) rfl rfl hl.1 rfl (lv_room (Nat.le_of_ble_eq_true rfl)) d_Law_697 ⟨by omega, by omega⟩) X (fun H locs X => ?_)
  refine lv_aload_n hx hb d_Law_700 rfl (lv_at hl 2 rfl) ?_
  refine lv_aload_n hx hb d_Law_701 rfl (lv_at hl 0 rfl) ?_
  refine lv_iload_n hx hb d_Law_702 rfl (lv_at hl 3 rfl) ?_
  refine lv_iconst hx hb d_Law_703 kn_i_1 ?_
  refine lv_iadd hx hb d_Law_704 ?_
  refine lo_sld hx hb hX hbl hbA X.2 (lo_ix j 1) (q := 4 * j + 1) (by omega) hL d_Law_705 ?_
  refine xr_ki (va_runV (As := [.int (xs (4 * j + 1))]) (rest := [.int r]) C.1 (kc_EM_coordinator l E hg h2) (cwV 1 C.1.2.2.2.2 (xw_V m_796 m_797 m_798 m_521 m_799) rfl rfl rfl ky_EM_coordinator ⟨(Nat.le_of_ble_eq_true rfl), (Nat.le_of_ble_eq_true rfl)⟩) (xr_pV C X xc_EM.1 (xk_Xw (X.1.2.2.2.2.2 hg).1)) rfl rfl hl.1 rfl (lv_room (Nat.le_of_ble_eq_true rfl)) d_Law_706 ⟨by omega, by omega⟩) X (fun H locs X => ?_)
  refine lv_icmp_eq (tgt := 714) hx hb d_Law_709 (by decide +kernel) (fun _ => ?_) (fun hc => absurd rfl hc)
  exact W.widen (by omega) (by omega) (kk H locs X)
end LOB
