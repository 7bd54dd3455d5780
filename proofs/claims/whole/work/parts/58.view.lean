-- the reference's object, once it is made, is seen by its fields
def xk_ix (ad : Nat → Nat) (a : Nat) : Option Nat := (List.range xm_N).find? (fun k => decide (k ≠ xm_l) && decide (ad k = a))
def xk_vw (K : xk) (om : Nat) (ad : Nat → Nat) : xk := (fun a => if a = om then 150 else match xk_ix ad a with
  | some k => 200 + k
  | none => K.1 a, K.2)
def xm_vw (K : xk) (om : Nat) (ad : Nat → Nat) : xm := fun k j => if k = xm_l then xk_iv K xm_c xm_l om else xk_ai K (ad k) j
def xk_0 (B : Nat) : xk := (fun _ => 0, fun _ => 0, fun _ _ _ => 0, fun _ _ _ => none, fun _ _ => 0, fun _ _ => none, B)
theorem xk_ix_some {ad : Nat → Nat} {a k : Nat} (h : xk_ix ad a = some k) : k < xm_N ∧ k ≠ xm_l ∧ ad k = a := by
  have h1 := List.find?_some h
  have h2 := List.mem_of_find?_eq_some h
  simp only [Bool.and_eq_true, decide_eq_true_eq] at h1
  exact ⟨List.mem_range.mp h2, h1.1, h1.2⟩
theorem xk_ix_none {ad : Nat → Nat} {a k : Nat} (h : xk_ix ad a = none) (hk : k < xm_N) (hl : k ≠ xm_l) : ad k ≠ a := by
  have h1 := List.find?_eq_none.mp h k (List.mem_range.mpr hk)
  intro e
  exact h1 (by simp [hl, e])
theorem xm_rk : ∀ k, k < xm_N → (xx_r xm_c k = true ↔ k ≠ xm_l) := by decide +kernel
theorem xm_ta : ∀ k, k < xm_N → xx_a (xm_t k) = false ∧ xm_t k < 50 := by decide +kernel
theorem xk_view {D : va_G} {tc : Nat → ClassId} {bs : Nat} {M0 : xm} {K : xk} {H : Heap} {om : Nat} {ad : Nat → Nat} (hbs : 0 < bs) (h : xk_W (D, tc, 0, fun _ => 0, bs, false) K M0 H) (hom : xk_kd K om = xm_c + 1) (hf : ∀ k, k < xm_N → k ≠ xm_l → xk_rv K xm_c k om = some (ad k))
    (hk : ∀ k, k < xm_N → k ≠ xm_l → xk_kd K (ad k) = 100 + xm_t k ∧ xk_ln K (ad k) = xm_n k) (hinj : ∀ k k', k < xm_N → k ≠ xm_l → k' < xm_N → k' ≠ xm_l → ad k = ad k' → k = k') : xk_W (D, tc, om, ad, bs, true) (xk_vw K om ad) (xm_vw K om ad) H := by
  obtain ⟨h1, h2, h3, h4, h5, h6⟩ := h
  have no2 : ∀ a k, xk_kd K a ≠ 200 + k := fun a k e => by
    have e0 := (h4 a k e).1
    have := (h3 a _ (xk_Xm e)).1
    have e1 : a = 0 := e0
    have e2 : bs ≤ a := this
    omega
  have no1 : ∀ a, xk_kd K a ≠ 150 := fun a e => by
    have e1 : a = 0 := h5 a e
    have e2 : bs ≤ a := (h3 a _ (xk_Xw e)).1
    omega
  have hlow : ∀ a, xk_kd K a < 200 ∧ xk_kd K a ≠ 150 := fun a => ⟨Nat.lt_of_not_le fun q => no2 a (xk_kd K a - 200) (by omega), no1 a⟩
  have hne : ∀ k, k < xm_N → k ≠ xm_l → ad k ≠ om := fun k h7 h8 e => by
    have := (hk k h7 h8).1
    rw [e, hom] at this
    have h9 : xm_c = 12 := rfl
    omega
  have kom : xk_kd (xk_vw K om ad) om = 150 := by show (if om = om then _ else _) = _; rw [if_pos rfl]
  have ksome : ∀ {a k}, a ≠ om → xk_ix ad a = some k → xk_kd (xk_vw K om ad) a = 200 + k := fun {a k} h7 h8 => by show (if a = om then _ else _) = _; rw [if_neg h7, h8]
  have knone : ∀ {a}, a ≠ om → xk_ix ad a = none → xk_kd (xk_vw K om ad) a = xk_kd K a := fun {a} h7 h8 => by show (if a = om then _ else _) = _; rw [if_neg h7, h8]; rfl
  have kad : ∀ k, k < xm_N → k ≠ xm_l → xk_ix ad (ad k) = some k := fun k h7 h8 => by
    cases hx : xk_ix ad (ad k) with
    | none => exact absurd rfl (xk_ix_none hx h7 h8)
    | some k' =>
      obtain ⟨g1, g2, g3⟩ := xk_ix_some hx
      rw [hinj k' k g1 g2 h7 h8 g3]
  refine ⟨h1, h2, fun a e he => ?_, fun a k ha => ?_, fun a ha => ?_, fun _ => ⟨kom, fun k h7 h8 => ksome (hne k h7 h8) (kad k h7 h8)⟩⟩
  · by_cases hao : a = om
    · subst hao
      rw [xk_Xw kom] at he
      cases he
      obtain ⟨g1, g2⟩ := h3 a _ (xk_Xo hom (by decide))
      refine ⟨g1, ?_⟩
      have e1 : xk_fs K xm_c a = xm_fs (D, tc, a, ad, bs, true) (xm_vw K a ad) := by
        unfold xk_fs xm_fs
        have : xx_n xm_c = xm_N := rfl
        rw [this]
        apply List.map_congr_left
        intro k hkm
        have hkl := List.mem_range.mp hkm
        by_cases hl : k = xm_l
        · subst hl
          have hr : ¬ xx_r xm_c xm_l = true := fun q => (xm_rk xm_l hkl).mp q rfl
          rw [if_neg hr, if_pos rfl]
          simp [xm_vw]
        · rw [if_pos ((xm_rk k hkl).mpr hl), if_neg hl, hf k hkl hl]
          rfl
      rw [← e1]
      exact g2
    · cases hx : xk_ix ad a with
      | some k =>
        obtain ⟨g1, g2, g3⟩ := xk_ix_some hx
        subst g3
        rw [xk_Xm (ksome hao hx)] at he
        cases he
        obtain ⟨ta, tb⟩ := xm_ta k g1
        obtain ⟨u1, u2⟩ := hk k g1 g2
        have hX := xk_Xa (E := (D, tc, 0, fun _ => 0, bs, false)) (M := M0) u1 tb
        rw [ta, if_neg (by decide), u2] at hX
        obtain ⟨v1, v2⟩ := h3 _ _ hX
        refine ⟨v1, ?_⟩
        have e1 : xm_vw K om ad k = xk_ai K (ad k) := by funext j; simp [xm_vw, g2]
        rw [e1]
        exact v2
      | none =>
        have hkd := knone hao hx
        have hlt := hlow a
        have e1 : xk_X (D, tc, om, ad, bs, true) (xk_vw K om ad) (xm_vw K om ad) a = xk_X (D, tc, 0, fun _ => 0, bs, false) K M0 a := by
          unfold xk_X
          rw [hkd]
          by_cases z1 : xk_kd K a = 0
          · rw [if_pos z1, if_pos z1]
          · rw [if_neg z1, if_neg z1]
            by_cases z2 : xk_kd K a < 100
            · rw [if_pos z2, if_pos z2]
              rfl
            · rw [if_neg z2, if_neg z2]
              by_cases z3 : xk_kd K a < 150
              · rw [if_pos z3, if_pos z3]
                rfl
              · rw [if_neg z3, if_neg z3, if_neg hlt.2, if_neg hlt.2, if_pos hlt.1, if_pos hlt.1]
        rw [e1] at he
        exact h3 a e he
  · by_cases hao : a = om
    · subst hao; rw [kom] at ha; omega
    · cases hx : xk_ix ad a with
      | some k' =>
        rw [ksome hao hx] at ha
        obtain ⟨g1, g2, g3⟩ := xk_ix_some hx
        have : k = k' := by omega
        subst this
        exact ⟨g3.symm, g2⟩
      | none => rw [knone hao hx] at ha; have := hlow a; omega
  · by_cases hao : a = om
    · exact hao
    · cases hx : xk_ix ad a with
      | some k' => rw [ksome hao hx] at ha; omega
      | none => rw [knone hao hx] at ha; have := hlow a; omega
theorem xk_0W {D : va_G} {tc : Nat → ClassId} {H : Heap} : xk_W (D, tc, 0, fun _ => 0, H.size, false) (xk_0 H.size) (fun _ _ => 0) H := by
  refine ⟨rfl, Nat.le_refl _, fun a e he => ?_, fun a k ha => ?_, fun a ha => ?_, fun h => by cases h⟩
  · have : xk_X (D, tc, 0, fun _ => 0, H.size, false) (xk_0 H.size) (fun _ _ => 0) a = none := by unfold xk_X; rw [if_pos (show xk_kd (xk_0 H.size) a = 0 from rfl)]
    rw [this] at he
    cases he
  · have : (0 : Nat) = 200 + k := ha
    omega
  · have : (0 : Nat) = 150 := ha
    omega
section XN0
variable {p : Program} {l : Launch} {e : Env} {R : Room} {s : State} {m : MethodId} {args : Array Value} {below : List Frame} {meth : Method} {c : Code} {H : Heap} {locs : List Loc} {cells slots : Nat} {Q : State → Prop}
variable {cc : ByteArray} {pc nL : Nat} {ls : Array Slot} {rest : List Value} {own : String} {E : xe} {K : xk} {M : xm} {a : Nat}
theorem xr_new0 (C : xx_C p m c cc nL s args own E) (X : xx_S E K M s H locs) {ci N : Nat} {Cn : String} {T : u_T} {ty : Nat → FieldType} (hc : xc_ok ci Cn T N ty) (h99 : ci < 99) (hN : xx_n ci = N) (hdef : ∀ j, j < N → defaultValue (ty j) = if xx_r ci j = true then .null else .int 0) {index : Nat} (hcl : (Cond.classLink own index Cn).before args s = true) (hins : Cond.instantiable Cn N ∈ w_all) (hini : Cond.initialized Cn ∈ w_all) (hdg : decode cc pc = .ok (.new index, 3)) (hcells : cells + 1 ≤ R.cells) (hslots : slots + N ≤ R.slots) {q : Nat} {K' : xk} (hv : xNw K (ci + 1) 0 = some (q, K'))
    (kk : ∀ H1 : Heap, xx_S E K' M s H1 locs → W p l e R s m args below meth c H1 locs (cells + 1) (slots + N) Q (F0 m (pc + 3) ls (.ref q :: rest))) : W p l e R s m args below meth c H locs cells slots Q (F0 m pc ls rest) := by
  cases hv
  have hKn := C.2.1.1 ci _ hc.1
  refine W.newcK C.1.1 C.1.2.1 C.1.2.2.2.1 hcl (C.1.2.2.2.2 _ hins) (C.1.2.2.2.2 _ hini) rfl hdg hcells hslots hKn.2.1 (h := xk_nx K) X.1.1 fun H1 kC hkC e1 z1 o1 => ?_
  have hsz := X.1.1
  refine kk H1 ⟨X.1.nw (by omega) (xk_Xo xk_newkd h99) (by rw [z1, hsz]) (fun q hq => o1 q (by rw [← hsz]; exact hq)) ⟨_, hc.1, (u_born ty C.1.2.2.2.2 hc.2.1 hKn hkC e1 hc.2.2.1).to (fun j hj => ?_)⟩, ⟨Nat.le_trans X.2.1 (by omega), fun x h1 h2 => (o1 x (by rw [← hsz]; exact Nat.lt_of_lt_of_le h1 X.2.1)).trans (X.2.2.1 x h1 h2), X.2.2.2⟩⟩
  rw [hdef j hj]
  subst hN
  by_cases hr : xx_r ci j = true
  · simp [vp_V, xk_fs, hj, hr, xk_new, xk_rv, va_rf]
  · simp [vp_V, xk_fs, hj, hr, xk_new, xk_iv]
end XN0
