section XN
variable {p : Program} {l : Launch} {e : Env} {R : Room} {s : State} {m : MethodId} {args : Array Value} {below : List Frame} {meth : Method} {c : Code} {H : Heap} {locs : List Loc} {cells slots : Nat} {Q : State → Prop}
variable {cc : ByteArray} {pc nL : Nat} {ls : Array Slot} {rest : List Value} {own : String} {E : xe} {K : xk} {M : xm} {a : Nat}
theorem xk_newkd {K : xk} {n len : Nat} : xk_kd (xk_new K n len) (xk_nx K) = n := by show (if _ then n else _) = _; rw [if_pos rfl]
theorem xr_new (C : xx_C p m c cc nL s args own E) (X : xx_S E K M s H locs) {ci N : Nat} {Cn : String} {T : u_T} {ty : Nat → FieldType} (hc : xc_ok ci Cn T N ty) (h99 : ci < 99) (hN : xx_n ci = N) (hdef : ∀ j, j < N → defaultValue (ty j) = if xx_r ci j = true then .null else .int 0) {index : Nat} (hcl : Cond.classLink own index Cn ∈ w_all) (hins : Cond.instantiable Cn N ∈ w_all) (hini : Cond.initialized Cn ∈ w_all) (hdg : decode cc pc = .ok (.new index, 3)) (hcells : cells + 1 ≤ R.cells) (hslots : slots + N ≤ R.slots) {q : Nat} {K' : xk} (hv : xNw K (ci + 1) 0 = some (q, K'))
    (kk : ∀ H1 : Heap, xx_S E K' M s H1 locs → W p l e R s m args below meth c H1 locs (cells + 1) (slots + N) Q (F0 m (pc + 3) ls (.ref q :: rest))) : W p l e R s m args below meth c H locs cells slots Q (F0 m pc ls rest) := by
  cases hv
  have hKn := C.2.1.1 ci _ hc.1
  refine W.newcK C.1.1 C.1.2.1 C.1.2.2.2.1 (C.1.2.2.2.2 _ hcl) (C.1.2.2.2.2 _ hins) (C.1.2.2.2.2 _ hini) rfl hdg hcells hslots hKn.2.1 (h := xk_nx K) X.1.1 fun H1 kC hkC e1 z1 o1 => ?_
  have hsz := X.1.1
  refine kk H1 ⟨X.1.nw (by omega) (xk_Xo xk_newkd h99) (by rw [z1, hsz]) (fun q hq => o1 q (by rw [← hsz]; exact hq)) ⟨_, hc.1, (u_born ty C.1.2.2.2.2 hc.2.1 hKn hkC e1 hc.2.2.1).to (fun j hj => ?_)⟩, ⟨Nat.le_trans X.2.1 (by omega), fun x h1 h2 => (o1 x (by rw [← hsz]; exact Nat.lt_of_lt_of_le h1 X.2.1)).trans (X.2.2.1 x h1 h2), X.2.2.2⟩⟩
  rw [hdef j hj]
  subst hN
  by_cases hr : xx_r ci j = true
  · simp [vp_V, xk_fs, hj, hr, xk_new, xk_rv, va_rf]
  · simp [vp_V, xk_fs, hj, hr, xk_new, xk_iv]
theorem xr_newa (C : xx_C p m c cc nL s args own E) (X : xx_S E K M s H locs) (t : Nat) {ty : FieldType} {atype : ArrayType} (hty : newarray.typeOf atype = ty) (ht5 : t < 50) (hta : xx_a t = false) (htt : (xx_tys E)[t]? = some (xe_tc E t, ty)) (hra : va_RA s (xe_tc E t) ty → s.vm.findClass ("[" ++ ty.toString) = some (xe_tc E t)) (harr : Cond.arrayClass ty ∈ w_all) (hd : defaultValue ty = .int 0)
    {n : Int32} {N : Nat} (hn : ¬ n < 0) (hN : n.toNatClampNeg = N) (hbytes : N * componentBytes ty ≤ 536870912) (hdg : decode cc pc = .ok (.newarray atype, 2)) (hcells : cells + 1 ≤ R.cells) (hslots : slots + N ≤ R.slots) {q : Nat} {K' : xk} (hv : xNw K (100 + t) N = some (q, K'))
    (kk : ∀ H1 : Heap, xx_S E K' M s H1 locs → W p l e R s m args below meth c H1 locs (cells + 1) (slots + N) Q (F0 m (pc + 2) ls (.ref q :: rest))) : W p l e R s m args below meth c H locs cells slots Q (F0 m pc ls (.int n :: rest)) := by
  cases hv
  subst hty
  refine va_newaK C.1.1 C.1.2.1 (C.1.2.2.2.2 _ harr) rfl hdg rfl hn hN hbytes hcells hslots (h := xk_nx K) X.1.1 fun H1 cA e1 z1 o1 hAr hNm => ?_
  have hsz := X.1.1
  have hcA : cA = xe_tc E t := Option.some.inj (hNm.symm.trans (hra (C.2.1.2 t _ htt).2))
  subst hcA
  have hX' : xk_X E (xk_new K (100 + t) N) M (xk_nx K) = _ := xk_Xa xk_newkd ht5
  rw [hta, if_neg (by decide)] at hX'
  refine kk H1 ⟨X.1.nw (by omega) hX' (by rw [z1, hsz]) (fun q hq => o1 q (by rw [← hsz]; exact hq)) ?_, ⟨Nat.le_trans X.2.1 (by omega), fun x h1 h2 => (o1 x (by rw [← hsz]; exact Nat.lt_of_lt_of_le h1 X.2.1)).trans (X.2.2.1 x h1 h2), X.2.2.2⟩⟩
  show H1[xk_nx K]? = some (vp_cell _ _)
  rw [e1, vp_cell_i, hd]
  simp [xk_new, xk_ln, xk_ai]
theorem xr_newq (C : xx_C p m c cc nL s args own E) (X : xx_S E K M s H locs) (t : Nat) {Cn : String} (ht5 : t < 50) (hta : xx_a t = true) (htt : (xx_tys E)[t]? = some (xe_tc E t, .object Cn)) {index : Nat} (hcl : Cond.classLink own index Cn ∈ w_all) (hov : Cn ∈ xw_o)
    {n : Int32} {N : Nat} (hn : ¬ n < 0) (hN : n.toNatClampNeg = N) (hbytes : N * 4 ≤ 536870912) (hdg : decode cc pc = .ok (.anewarray index, 3)) (hcells : cells + 1 ≤ R.cells) (hslots : slots + N ≤ R.slots) {q : Nat} {K' : xk} (hv : xNw K (100 + t) N = some (q, K'))
    (kk : ∀ H1 : Heap, xx_S E K' M s H1 locs → W p l e R s m args below meth c H1 locs (cells + 1) (slots + N) Q (F0 m (pc + 3) ls (.ref q :: rest))) : W p l e R s m args below meth c H locs cells slots Q (F0 m pc ls (.int n :: rest)) := by
  cases hv
  subst hN
  have hsz := X.1.1
  refine W.anew C.1.1 C.1.2.1 C.1.2.2.2.1 (C.1.2.2.2.2 _ hcl) (va_AO.use (C.2.2.2 _ hov)) rfl hdg rfl hn hbytes hcells hslots fun cA kA comp f1 f2 f3 f4 => ?_
  generalize hH1 : H.push ({ cls := cA, slots := Array.replicate n.toNatClampNeg .null, vm := .none } : Cell) = H1
  have z1 : H1.size = H.size + 1 := by rw [← hH1, Array.size_push]
  have e1 : H1[H.size]? = some (arrV cA n.toNatClampNeg (fun _ => .null)) := by rw [← hH1, Array.getElem?_push_size, ← arrV_new]
  have o1 : ∀ q : Nat, q < H.size → H1[q]? = H[q]? := fun q hq => by rw [← hH1, Array.getElem?_push, if_neg (Nat.ne_of_lt hq)]
  obtain ⟨kA', comp', -, -, -, k4⟩ := (C.2.1.2 t _ htt).2
  have hcA : cA = xe_tc E t := Option.some.inj (f1.symm.trans k4)
  subst hcA
  have hX' : xk_X E (xk_new K (100 + t) n.toNatClampNeg) M (xk_nx K) = _ := xk_Xa xk_newkd ht5
  rw [hta, if_pos rfl] at hX'
  have key := kk H1 ⟨X.1.nw (by omega) hX' z1 o1 (by
    show H1[xk_nx K]? = some (vp_cell _ _)
    rw [← hsz, e1, vp_cell_q]
    simp [xk_new, xk_ln, xk_ar, va_rf, hsz]), ⟨Nat.le_trans X.2.1 (by omega), fun x h1 h2 => (o1 x (Nat.lt_of_lt_of_le h1 X.2.1)).trans (X.2.2.1 x h1 h2), X.2.2.2⟩⟩
  rw [← hsz] at key
  exact key
-- the reference's object and arrays
theorem xm_fsat {E : xe} {M : xm} {k : Nat} (hk : k < xm_N) : (xm_fs E M)[k]? = some (if k = xm_l then .int (M xm_l 0) else va_rf (some (xe_ad E k))) := by simp [xm_fs, hk]
theorem xr_mga (C : xx_C p m c cc nL s args own E) (X : xx_S E K M s H locs) (hg : xe_g E = true) {N : Nat} {Cn : String} {T : u_T} {ty : Nat → FieldType} (hc : xc_ok xm_c Cn T N ty) (k : Nat) (hk : k < N) (hkN : k < xm_N) (hkl : k ≠ xm_l) {index : Nat} (hl : Cond.fieldLink own index Cn (T k).2.1 (T k).2.2.1 ∈ w_all) (hdg : decode cc pc = .ok (.getfield index, 3))
    (kk : W p l e R s m args below meth c H locs cells slots Q (F0 m (pc + 3) ls (va_rf (some (xe_ad E k)) :: rest))) : W p l e R s m args below meth c H locs cells slots Q (F0 m pc ls (.ref (xe_om E) :: rest)) := by
  obtain ⟨h1, h2⟩ := X.1.2.2.1 (xe_om E) _ (xk_Xw (X.1.2.2.2.2.2 hg).1)
  exact va_get C.1.1 C.1.2.1 C.1.2.2.2.2 hc.2.1 C.1.2.2.2.1 C.2.1 (xk_one h2) 0 rfl hc.1 k hk (C.1.2.2.2.2 _ hl) (fun x h => by rw [hc.2.2.2.2 k hk] at h; exact h) (v := va_rf (some (xe_ad E k))) (by rw [xm_fsat hkN, if_neg hkl]) hdg kk
theorem xr_mgl (C : xx_C p m c cc nL s args own E) (X : xx_S E K M s H locs) (hg : xe_g E = true) {N : Nat} {Cn : String} {T : u_T} {ty : Nat → FieldType} (hc : xc_ok xm_c Cn T N ty) (hk : xm_l < N) (hkN : xm_l < xm_N) {index : Nat} (hl : Cond.fieldLink own index Cn (T xm_l).2.1 (T xm_l).2.2.1 ∈ w_all) (hdg : decode cc pc = .ok (.getfield index, 3))
    (kk : W p l e R s m args below meth c H locs cells slots Q (F0 m (pc + 3) ls (.int (M xm_l 0) :: rest))) : W p l e R s m args below meth c H locs cells slots Q (F0 m pc ls (.ref (xe_om E) :: rest)) := by
  obtain ⟨h1, h2⟩ := X.1.2.2.1 (xe_om E) _ (xk_Xw (X.1.2.2.2.2.2 hg).1)
  exact va_get C.1.1 C.1.2.1 C.1.2.2.2.2 hc.2.1 C.1.2.2.2.1 C.2.1 (xk_one h2) 0 rfl hc.1 xm_l hk (C.1.2.2.2.2 _ hl) (fun x h => by rw [hc.2.2.2.2 xm_l hk] at h; exact h) (v := .int (M xm_l 0)) (by rw [xm_fsat hkN, if_pos rfl]) hdg kk
theorem xk_Xms {E : xe} {K : xk} {M : xm} {k i b : Nat} {v : Int32} (hb : xk_kd K b ≠ 200 + k) (hb2 : xk_kd K b = 150 → k ≠ xm_l) : xk_X E K (xm_s M k i v) b = xk_X E K M b := by
  unfold xk_X
  by_cases h1 : xk_kd K b = 150
  · have e1 : xm_fs E (xm_s M k i v) = xm_fs E M := by
      have := hb2 h1
      simp [xm_fs, xm_s, Ne.symm this]
    rw [e1]
    simp [h1]
  · by_cases h2 : xk_kd K b < 200
    · simp only [h2, if_true, if_neg h1]
    · have e1 : xm_s M k i v (xk_kd K b - 200) = M (xk_kd K b - 200) := by
        funext j
        have : xk_kd K b - 200 ≠ k := by omega
        simp [xm_s, this]
      rw [e1]
      simp [h1]
theorem xr_mpl (C : xx_C p m c cc nL s args own E) (X : xx_S E K M s H locs) (hg : xe_g E = true) {N : Nat} {Cn : String} {T : u_T} {ty : Nat → FieldType} (hc : xc_ok xm_c Cn T N ty) (hk : xm_l < N) (hkN : xm_l < xm_N) (hty : ty xm_l = .int) (hfin : (T xm_l).2.2.2 = false) {index : Nat} (hl : Cond.fieldLink own index Cn (T xm_l).2.1 (T xm_l).2.2.1 ∈ w_all) (hdg : decode cc pc = .ok (.putfield index, 3))
    {v : Int32} {M' : xm} (hv : xMl M v = some M') (kk : ∀ (H1 : Heap) (locs1 : List Loc), xx_S E K M' s H1 locs1 → W p l e R s m args below meth c H1 locs1 cells slots Q (F0 m (pc + 3) ls rest)) : W p l e R s m args below meth c H locs cells slots Q (F0 m pc ls (.int v :: .ref (xe_om E) :: rest)) := by
  cases hv
  have h150 := (X.1.2.2.2.2.2 hg).1
  refine xr_put0 C X hc (xk_Xw h150) xm_l hk (by simp [xm_fs]; exact hkN) hfin hl hdg (by rw [hty]; rfl) (by rw [hty]; rfl) (fun b hb => xk_Xms (fun h => (X.1.2.2.2.1 b _ h).2 rfl) (fun h => absurd (X.1.2.2.2.2.1 b h) hb)) ?_ rfl rfl kk
  rw [xk_Xw h150]
  congr 3
theorem xr_mld (C : xx_C p m c cc nL s args own E) (X : xx_S E K M s H locs) (hg : xe_g E = true) (k : Nat) (hkN : k < xm_N) (hkl : k ≠ xm_l) (htt : (xx_tys E)[xm_t k]? = some (xe_tc E (xm_t k), .int)) (hdg : decode cc pc = .ok (.iaload, 1)) {i v : Int32} (hv : xMi M k i = some v)
    (kk : W p l e R s m args below meth c H locs cells slots Q (F0 m (pc + 1) ls (.int v :: rest))) : W p l e R s m args below meth c H locs cells slots Q (F0 m pc ls (.int i :: .ref (xe_ad E k) :: rest)) := by
  unfold xMi at hv
  split at hv
  · cases hv
  · rename_i hkd
    cases hv
    exact va_iald C.1.1 C.1.2.1 C.2.1 (xk_one (X.1.2.2.1 _ _ (xk_Xm ((X.1.2.2.2.2.2 hg).2 k hkN hkl))).2) 0 (xm_t k) rfl htt hkd hdg kk
theorem xr_mldz (C : xx_C p m c cc nL s args own E) (X : xx_S E K M s H locs) (hg : xe_g E = true) (k : Nat) (hkN : k < xm_N) (hkl : k ≠ xm_l) (htt : (xx_tys E)[xm_t k]? = some (xe_tc E (xm_t k), .boolean)) (hdg : decode cc pc = .ok (.baload, 1)) {i v : Int32} (hv : xMi M k i = some v)
    (kk : W p l e R s m args below meth c H locs cells slots Q (F0 m (pc + 1) ls (.int v :: rest))) : W p l e R s m args below meth c H locs cells slots Q (F0 m pc ls (.int i :: .ref (xe_ad E k) :: rest)) := by
  unfold xMi at hv
  split at hv
  · cases hv
  · rename_i hkd
    cases hv
    exact va_zald C.1.1 C.1.2.1 C.2.1 (xk_one (X.1.2.2.1 _ _ (xk_Xm ((X.1.2.2.2.2.2 hg).2 k hkN hkl))).2) 0 (xm_t k) rfl htt hkd hdg kk
theorem xm_upd {M : xm} {k i : Nat} {v : Int32} : (fun j => Value.int (xm_s M k i v k j)) = updV (fun j => .int (M k j)) i (.int v) := by
  funext j
  by_cases h : j = i
  · subst h; simp [updV, xm_s]
  · simp [updV, xm_s, h]
theorem xr_mst (C : xx_C p m c cc nL s args own E) (X : xx_S E K M s H locs) (hg : xe_g E = true) (k : Nat) (hkN : k < xm_N) (hkl : k ≠ xm_l) (htt : (xx_tys E)[xm_t k]? = some (xe_tc E (xm_t k), .int)) (hdg : decode cc pc = .ok (.iastore, 1)) {i v : Int32} {M' : xm} (hv : xMt M k i v = some M')
    (kk : ∀ (H1 : Heap) (locs1 : List Loc), xx_S E K M' s H1 locs1 → W p l e R s m args below meth c H1 locs1 cells slots Q (F0 m (pc + 1) ls rest)) : W p l e R s m args below meth c H locs cells slots Q (F0 m pc ls (.int v :: .int i :: .ref (xe_ad E k) :: rest)) := by
  unfold xMt at hv
  split at hv
  · cases hv
  · rename_i hkd
    cases hv
    have hkk := (X.1.2.2.2.2.2 hg).2 k hkN hkl
    obtain ⟨hbs, hat⟩ := X.1.2.2.1 _ _ (xk_Xm hkk)
    refine W.iast C.1.1 C.1.2.1 hat ((C.2.1.2 _ _ htt).1 _ (fun j => .int (M k j))) (fun q => by cases q) (by show ¬ (i < 0 ∨ (arrV _ _ _).slots.size ≤ _); rw [arrV_size]; exact hkd) rfl rfl hdg fun H1 e1 z oq => ?_
    refine kk H1 _ ⟨X.1.st (fun b hb => xk_Xms (fun h => hb (X.1.2.2.2.1 b _ h).1) (fun _ => hkl)) (xk_Xm hkk) rfl rfl hbs z oq ?_, X.2.put z oq hbs⟩
    show H1[_]? = some (vp_cell _ _)
    rw [e1, vp_cell_i, vp_cell_i, arrV_store, xm_upd]
theorem xr_mstz (C : xx_C p m c cc nL s args own E) (X : xx_S E K M s H locs) (hg : xe_g E = true) (k : Nat) (hkN : k < xm_N) (hkl : k ≠ xm_l) (htt : (xx_tys E)[xm_t k]? = some (xe_tc E (xm_t k), .boolean)) (hdg : decode cc pc = .ok (.bastore, 1)) {i v : Int32} {M' : xm} (hv : xMz M k i v = some M')
    (kk : ∀ (H1 : Heap) (locs1 : List Loc), xx_S E K M' s H1 locs1 → W p l e R s m args below meth c H1 locs1 cells slots Q (F0 m (pc + 1) ls rest)) : W p l e R s m args below meth c H locs cells slots Q (F0 m pc ls (.int v :: .int i :: .ref (xe_ad E k) :: rest)) := by
  unfold xMz at hv
  split at hv
  · cases hv
  · rename_i hkd
    cases hv
    have hkk := (X.1.2.2.2.2.2 hg).2 k hkN hkl
    have hz : narrow .boolean (.int v) = .int v := by
      have : v = 0 ∨ v = 1 := Classical.not_not.mp fun h => hkd (Or.inr h)
      rcases this with rfl | rfl <;> decide
    obtain ⟨hbs, hat⟩ := X.1.2.2.1 _ _ (xk_Xm hkk)
    refine W.zast C.1.1 C.1.2.1 hat ((C.2.1.2 _ _ htt).1 _ (fun j => .int (M k j))) (fun q => by cases q) (by show ¬ (i < 0 ∨ (arrV _ _ _).slots.size ≤ _); rw [arrV_size]; exact fun h => hkd (Or.inl h)) rfl rfl hdg fun H1 e1 z oq => ?_
    refine kk H1 _ ⟨X.1.st (fun b hb => xk_Xms (fun h => hb (X.1.2.2.2.1 b _ h).1) (fun _ => hkl)) (xk_Xm hkk) rfl rfl hbs z oq ?_, X.2.put z oq hbs⟩
    show H1[_]? = some (vp_cell _ _)
    rw [e1, hz, vp_cell_i, vp_cell_i, arrV_store, xm_upd]
-- references in locals and on the stack
theorem xr_cat (v : Option Nat) : (va_rf v).category = 1 := by cases v <;> rfl
theorem xr_c_i (x : Int32) : (Value.int x).category = 1 := rfl
theorem xr_c_a (x : Nat) : (Value.ref x).category = 1 := rfl
theorem xr_c_l (x : Int64) : (Value.long x).category = 2 := rfl
theorem xr_aload_n (hx : p.tables.exec = Jvm.exec) (hb : c.code = cc) {k : Fin 4} {i : Nat} {v : Option Nat} (hdg : decode cc pc = .ok (.aload_n k, 1)) (hi : (k : Nat) = i) (hl : ls[i]? = some (.val (va_rf v))) (kk : W p l e R s m args below meth c H locs cells slots Q (F0 m (pc + 1) ls (va_rf v :: rest))) : W p l e R s m args below meth c H locs cells slots Q (F0 m pc ls rest) := by
  cases v with
  | none => exact lv_aload_nN hx hb hdg hi hl kk
  | some x => exact lv_aload_n hx hb hdg hi hl kk
theorem xr_aload (hx : p.tables.exec = Jvm.exec) (hb : c.code = cc) {i : Nat} {v : Option Nat} (hdg : decode cc pc = .ok (.aload i, 2)) (hl : ls[i]? = some (.val (va_rf v))) (kk : W p l e R s m args below meth c H locs cells slots Q (F0 m (pc + 2) ls (va_rf v :: rest))) : W p l e R s m args below meth c H locs cells slots Q (F0 m pc ls rest) := by
  cases v with
  | none => exact lv_aloadN hx hb hdg hl kk
  | some x => exact lv_aload hx hb hdg hl kk
theorem xr_astore_n (hx : p.tables.exec = Jvm.exec) (hb : c.code = cc) {k : Fin 4} {i nL : Nat} {v : Option Nat} {lv lv' : List (Nat × Value)} (hdg : decode cc pc = .ok (.astore_n k, 1)) (hi : (k : Nat) = i) (h : lv_has ls nL lv) (hn : i < nL) (hl : (i, va_rf v) :: lv.filter (fun q => !(q.1 == i) && !(q.1 + 1 == i && q.2.category == 2)) = lv')
    (kk : ∀ ls' : Array Slot, lv_has ls' nL lv' → W p l e R s m args below meth c H locs cells slots Q (F0 m (pc + 1) ls' rest)) : W p l e R s m args below meth c H locs cells slots Q (F0 m pc ls (va_rf v :: rest)) := by
  cases v with
  | none => exact lv_astore_nN hx hb hdg hi h hn hl kk
  | some x => exact lv_astore_n hx hb hdg hi h hn hl kk
theorem xr_astore (hx : p.tables.exec = Jvm.exec) (hb : c.code = cc) {i nL : Nat} {v : Option Nat} {lv lv' : List (Nat × Value)} (hdg : decode cc pc = .ok (.astore i, 2)) (h : lv_has ls nL lv) (hn : i < nL) (hl : (i, va_rf v) :: lv.filter (fun q => !(q.1 == i) && !(q.1 + 1 == i && q.2.category == 2)) = lv')
    (kk : ∀ ls' : Array Slot, lv_has ls' nL lv' → W p l e R s m args below meth c H locs cells slots Q (F0 m (pc + 2) ls' rest)) : W p l e R s m args below meth c H locs cells slots Q (F0 m pc ls (va_rf v :: rest)) := by
  cases v with
  | none => exact lv_astoreN hx hb hdg h hn hl kk
  | some x => exact lv_astore hx hb hdg h hn hl kk
theorem xr_ifnull (hx : p.tables.exec = Jvm.exec) (hb : c.code = cc) {v : Option Nat} {off : Int} {tgt : Nat} (hdg : decode cc pc = .ok (.ifnull off, 3)) (ht : (pc : Int) + off = (tgt : Int)) (kt : v = none → W p l e R s m args below meth c H locs cells slots Q (F0 m tgt ls rest)) (kf : ¬ v = none → W p l e R s m args below meth c H locs cells slots Q (F0 m (pc + 3) ls rest)) : W p l e R s m args below meth c H locs cells slots Q (F0 m pc ls (va_rf v :: rest)) := by
  cases v with
  | none => exact lv_ifnullN hx hb hdg ht (kt rfl)
  | some x => exact lv_ifnull hx hb hdg (kf (fun h => by cases h))
theorem xr_ifnonnull (hx : p.tables.exec = Jvm.exec) (hb : c.code = cc) {v : Option Nat} {off : Int} {tgt : Nat} (hdg : decode cc pc = .ok (.ifnonnull off, 3)) (ht : (pc : Int) + off = (tgt : Int)) (kt : ¬ v = none → W p l e R s m args below meth c H locs cells slots Q (F0 m tgt ls rest)) (kf : v = none → W p l e R s m args below meth c H locs cells slots Q (F0 m (pc + 3) ls rest)) : W p l e R s m args below meth c H locs cells slots Q (F0 m pc ls (va_rf v :: rest)) := by
  cases v with
  | none => exact lv_ifnonnullN hx hb hdg (kf rfl)
  | some x => exact lv_ifnonnull hx hb hdg ht (kt (fun h => by cases h))
-- a method's end
abbrev xq_i (E : xe) (K : xk) (M : xm) (r : Int32) : Array Value → State → Outcome → State → Prop := va_Qi (fun x (_ : Unit) => x = r) (fun _ t => xx_B E K M t) (xe_A E)
abbrev xq_l (E : xe) (K : xk) (M : xm) (r : Int64) : Array Value → State → Outcome → State → Prop := va_Ql (fun x (_ : Unit) => x = r) (fun _ t => xx_B E K M t) (xe_A E)
abbrev xq_r (E : xe) (K : xk) (M : xm) (r : Option Nat) : Array Value → State → Outcome → State → Prop := va_Qq (fun x (_ : Unit) => x = r) (fun _ t => xx_B E K M t) (xe_A E)
abbrev xq_v (E : xe) (K : xk) (M : xm) : Array Value → State → Outcome → State → Prop := va_Qv (fun (_ : Unit) => True) (fun _ t => xx_B E K M t) (xe_A E)
theorem xr_iret (C : xx_C p m c cc nL s args own E) (X : xx_S E K M s H locs) (hlk : meth.locks = false) (hr : meth.sig.returnType = some .int) (hdg : decode cc pc = .ok (.ireturn, 1)) {v r : Int32} (hv : v = r) {mc ms : Nat} (h1 : cells ≤ mc) (h2 : slots ≤ ms) : W p l e R s m args below meth c H locs cells slots (MQ below (xq_i E K M r) args s mc ms (xe_A E)) (F0 m pc ls [.int v]) := by
  subst hv
  exact W.widen h1 h2 (W.iret C.1.1 C.1.2.1 hr (fun t ht hW => ⟨⟨v, (), rfl, rfl, by rw [ht]; exact X.1, va_K.moved hW.alike C.2.1, C.2.2.warm hW⟩, X.2.F ht⟩) X.2.2.2 hdg hlk)
theorem xr_zret (C : xx_C p m c cc nL s args own E) (X : xx_S E K M s H locs) (hlk : meth.locks = false) (hr : meth.sig.returnType = some .boolean) (hdg : decode cc pc = .ok (.ireturn, 1)) {v r : Int32} (hz : xZ v = some r) {mc ms : Nat} (h1 : cells ≤ mc) (h2 : slots ≤ ms) : W p l e R s m args below meth c H locs cells slots (MQ below (xq_i E K M r) args s mc ms (xe_A E)) (F0 m pc ls [.int v]) := by
  unfold xZ at hz
  split at hz
  · rename_i h
    cases hz
    exact W.widen h1 h2 (W.zret C.1.1 C.1.2.1 hr (by rcases h with rfl | rfl <;> decide) (fun t ht hW => ⟨⟨v, (), rfl, rfl, by rw [ht]; exact X.1, va_K.moved hW.alike C.2.1, C.2.2.warm hW⟩, X.2.F ht⟩) X.2.2.2 hdg hlk)
  · cases hz
theorem xr_lret (C : xx_C p m c cc nL s args own E) (X : xx_S E K M s H locs) (hlk : meth.locks = false) (hr : meth.sig.returnType = some .long) (hdg : decode cc pc = .ok (.lreturn, 1)) {v r : Int64} (hv : v = r) {mc ms : Nat} (h1 : cells ≤ mc) (h2 : slots ≤ ms) : W p l e R s m args below meth c H locs cells slots (MQ below (xq_l E K M r) args s mc ms (xe_A E)) (F0 m pc ls [.long v]) := by
  subst hv
  exact W.widen h1 h2 (W.lret C.1.1 C.1.2.1 hr (fun t ht hW => ⟨⟨v, (), rfl, rfl, by rw [ht]; exact X.1, va_K.moved hW.alike C.2.1, C.2.2.warm hW⟩, X.2.F ht⟩) X.2.2.2 hdg hlk)
theorem xr_aret (C : xx_C p m c cc nL s args own E) (X : xx_S E K M s H locs) (hlk : meth.locks = false) {n : String} (hr : meth.sig.returnType = some (.object n)) (hdg : decode cc pc = .ok (.areturn, 1)) {v r : Option Nat} (hv : v = r) {mc ms : Nat} (h1 : cells ≤ mc) (h2 : slots ≤ ms) : W p l e R s m args below meth c H locs cells slots (MQ below (xq_r E K M r) args s mc ms (xe_A E)) (F0 m pc ls [va_rf v]) := by
  subst hv
  exact W.widen h1 h2 (W.aret C.1.1 C.1.2.1 hr (Or.inl ⟨n, rfl⟩) (va_rf_or v) (fun t ht hW => ⟨⟨v, (), rfl, rfl, by rw [ht]; exact X.1, va_K.moved hW.alike C.2.1, C.2.2.warm hW⟩, X.2.F ht⟩) X.2.2.2 hdg hlk)
theorem xr_vret (C : xx_C p m c cc nL s args own E) (X : xx_S E K M s H locs) (hlk : meth.locks = false) (hr : meth.sig.returnType = none) (hdg : decode cc pc = .ok (.return_, 1)) {mc ms : Nat} (h1 : cells ≤ mc) (h2 : slots ≤ ms) : W p l e R s m args below meth c H locs cells slots (MQ below (xq_v E K M) args s mc ms (xe_A E)) (F0 m pc ls []) := by
  exact W.widen h1 h2 (W.vret C.1.1 C.1.2.1 hr (fun t ht hW => ⟨⟨(), rfl, trivial, by rw [ht]; exact X.1, va_K.moved hW.alike C.2.1, C.2.2.warm hW⟩, X.2.F ht⟩) X.2.2.2 hdg hlk)
end XN
