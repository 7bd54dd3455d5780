section XC
variable {p : Program} {l : Launch} {e : Env} {R : Room} {s : State} {m : MethodId} {args : Array Value} {below : List Frame} {meth : Method} {c : Code} {H : Heap} {locs : List Loc} {cells slots : Nat} {Q : State → Prop}
variable {cc : ByteArray} {pc nL : Nat} {ls : Array Slot} {rest st0 : List Value} {own : String} {E : xe} {K K' : xk} {M M' : xm} {b : Nat}
variable {y : MethodName} {bytes : ByteArray} {maxL mc ms n index : Nat} {ret : Option FieldType} {rm : Room} {Cn host : String} {As : List Value}
theorem xr_bl {av : List Value} : FrameBlind (va_Pc av (fun U => xx_B E K M U)) := fun a U g mk q => by
  obtain ⟨q0, qW, qK, qN⟩ := q
  exact ⟨q0, qW, va_K.moved (u := U) (U := U.calling g mk a) (Vm.Alike.refl U.vm) qK, qN.same rfl⟩
theorem xr_pre {av : List Value} (C : xx_C p m c cc nL s args own E) (X : xx_S E K M s H locs) : ∀ U : State, U.heap = H → s.WarmedH U.vm → va_Pc av (fun U => xx_B E K M U) av.toArray U := fun U hU hW => ⟨rfl, by rw [hU]; exact X.1, va_K.moved hW.alike C.2.1, C.2.2.warm hW⟩
theorem xr_rcv (C : xx_C p m c cc nL s args own E) (X : xx_S E K M s H locs) {ci : Nat} {T : u_T} {N : Nat} {fs : List Value} (hc : classes[ci]? = some (Cn, T, N)) (hX0 : xk_X E K M b = some (.inr (ci, fs))) : ∃ cellB : Cell, H[b]? = some cellB ∧ cellB.vm.isStatics = false ∧ s.vm.findClass Cn = some cellB.cls :=
  va_recv (q0 := 0) C.2.1 (xk_one (X.1.2.2.1 b _ hX0).2) hc rfl
theorem xr_pV {av : List Value} (C : xx_C p m c cc nL s args own E) (X : xx_S E K M s H locs) {ci : Nat} {T : u_T} {N : Nat} {fs : List Value} (hc : classes[ci]? = some (Cn, T, N)) (hX0 : xk_X E K M b = some (.inr (ci, fs))) : PreV s H Cn b (va_Pc (.ref b :: av) (fun U => xx_B E K M U)) av := ⟨xr_bl, xr_rcv C X hc hX0, xr_pre C X⟩
theorem xr_pS {av : List Value} (C : xx_C p m c cc nL s args own E) (X : xx_S E K M s H locs) : PreS s H (va_Pc av (fun U => xx_B E K M U)) av := ⟨xr_bl, xr_pre C X⟩
/-- a call's end, by the kind of its answer -/
theorem xr_ki {r : Int32} {a : Array Value} (hr : va_Run p l e R s m args below meth c H locs cells slots mc ms (F0 m pc ls st0) rest (xq_i E K' M' r a) (xe_A E)) (X : xx_S E K M s H locs) (kk : ∀ (H1 : Heap) (locs1 : List Loc), xx_S E K' M' s H1 locs1 → W p l e R s m args below meth c H1 locs1 (cells + mc) (slots + ms) Q (F0 m (pc + 3) ls (.int r :: rest))) : W p l e R s m args below meth c H locs cells slots Q (F0 m pc ls st0) := by
  refine va_calli hr X.2 (fun _ _ h => h) (fun _ h => h) (fun r' u t H1 locs1 ht hvm hw hB hz hk hS => ?_)
  subst hw
  exact kk H1 locs1 ⟨by rw [← ht]; exact hB.1, hS⟩
theorem xr_kl {r : Int64} {a : Array Value} (hr : va_Run p l e R s m args below meth c H locs cells slots mc ms (F0 m pc ls st0) rest (xq_l E K' M' r a) (xe_A E)) (X : xx_S E K M s H locs) (kk : ∀ (H1 : Heap) (locs1 : List Loc), xx_S E K' M' s H1 locs1 → W p l e R s m args below meth c H1 locs1 (cells + mc) (slots + ms) Q (F0 m (pc + 3) ls (.long r :: rest))) : W p l e R s m args below meth c H locs cells slots Q (F0 m pc ls st0) := by
  refine va_calll hr X.2 (fun _ _ h => h) (fun _ h => h) (fun r' u t H1 locs1 ht hvm hw hB hz hk hS => ?_)
  subst hw
  exact kk H1 locs1 ⟨by rw [← ht]; exact hB.1, hS⟩
theorem xr_kr {r : Option Nat} {a : Array Value} (hr : va_Run p l e R s m args below meth c H locs cells slots mc ms (F0 m pc ls st0) rest (xq_r E K' M' r a) (xe_A E)) (X : xx_S E K M s H locs) (kk : ∀ (H1 : Heap) (locs1 : List Loc), xx_S E K' M' s H1 locs1 → W p l e R s m args below meth c H1 locs1 (cells + mc) (slots + ms) Q (F0 m (pc + 3) ls (va_rf r :: rest))) : W p l e R s m args below meth c H locs cells slots Q (F0 m pc ls st0) := by
  refine va_callq hr X.2 (fun _ _ h => h) (fun _ h => h) (fun r' u t H1 locs1 ht hvm hw hB hz hk hS => ?_)
  subst hw
  exact kk H1 locs1 ⟨by rw [← ht]; exact hB.1, hS⟩
theorem xr_kv {a : Array Value} (hr : va_Run p l e R s m args below meth c H locs cells slots mc ms (F0 m pc ls st0) rest (xq_v E K' M' a) (xe_A E)) (X : xx_S E K M s H locs) (kk : ∀ (H1 : Heap) (locs1 : List Loc), xx_S E K' M' s H1 locs1 → W p l e R s m args below meth c H1 locs1 (cells + mc) (slots + ms) Q (F0 m (pc + 3) ls rest)) : W p l e R s m args below meth c H locs cells slots Q (F0 m pc ls st0) := by
  refine va_callv hr X.2 (fun _ _ h => h) (fun _ h => h) (fun u t H1 locs1 ht hvm hw hB hz hk hS => ?_)
  exact kk H1 locs1 ⟨by rw [← ht]; exact hB.1, hS⟩
/-- the words of a callee are among the caller's: all have the same -/
theorem xw_in {w : Cond} (h : w ∈ w_all) : GoodIn w_all (w :: w_all) := fun v hv => by
  rcases List.mem_cons.mp hv with rfl | hv
  · exact ⟨h, w_good _ h⟩
  · exact ⟨hv, w_good _ hv⟩
theorem xw_V (h1 : Cond.methodLink own index y ∈ w_all) (h2 : Cond.instanceMethod y ∈ w_all) (h3 : Cond.selects Cn y y ∈ w_all) (h4 : Cond.initialized Cn ∈ w_all) (h5 : Cond.code y bytes maxL ret ∈ w_all) : GoodIn w_all (wsV own index Cn y (Cond.code y bytes maxL ret :: w_all)) := fun v hv => by
  have : v ∈ w_all := by
    simp only [wsV, List.cons_append, List.nil_append, List.mem_cons] at hv
    rcases hv with rfl | rfl | rfl | rfl | rfl | hv <;> assumption
  exact ⟨this, w_good _ this⟩
theorem xw_S (h1 : Cond.methodLink own index y ∈ w_all) (h2 : Cond.static y ∈ w_all) (h4 : Cond.initialized own ∈ w_all) (h5 : Cond.code y bytes maxL ret ∈ w_all) : GoodIn w_all (wsS own index y (Cond.code y bytes maxL ret :: w_all)) := fun v hv => by
  have : v ∈ w_all := by
    simp only [wsS, List.cons_append, List.nil_append, List.mem_cons] at hv
    rcases hv with rfl | rfl | rfl | rfl | hv <;> assumption
  exact ⟨this, w_good _ this⟩
/-- a method's contract out of the walk of its body -/
theorem xr_met {av : List Value} {Qc : Array Value → State → Outcome → State → Prop} (hy : plainName y.cls = true) (hav : (lg_sl av).length ≤ maxL)
    (body : ∀ (p : Program) (e : Env) (s : State) (m : MethodId) (below : List Frame) (meth : Method) (c : Code) (ls : Array Slot), xx_C p m c bytes maxL s av.toArray y.cls E → xx_S E K M s s.heap [] → meth.locks = false → meth.sig.returnType = ret → meth.name = y.name → lv_has ls maxL (lv_args 0 av) →
      W p l e rm s m av.toArray below meth c s.heap [] 0 0 (MQ below Qc av.toArray s mc ms (xe_A E)) (F0 m 0 ls [])) : Met l y (Cond.code y bytes maxL ret :: w_all) rm (va_Pc av (fun U => xx_B E K M U)) Qc mc ms (xe_A E) := by
  refine Met.ofW (cc := bytes) (maxL := maxL) (ret := ret) hy rfl ?_
  intro p e s m args below meth c s₁ B hml hv
  obtain ⟨rfl, hW, hK, hN⟩ := hv
  have hl := lv_entry av hav
  rw [lg_entry_eq]
  generalize (lg_sl av ++ List.replicate (maxL - (lg_sl av).length) Slot.unset).toArray = ls at hl ⊢
  exact body p e s m below meth c ls ⟨⟨B.exec, B.bytes, hml, findClass_of_methodNamed B.named, fun w hw => atoms_spec (ws := Cond.code y bytes maxL ret :: w_all) B.pre w (List.mem_cons_of_mem _ hw)⟩, hK, hN⟩ ⟨hW, va_S.rf⟩ B.notSynchronized B.returns (name_of_methodNamed B.named B.method).1 hl
end XC
