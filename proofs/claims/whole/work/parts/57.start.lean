section LOD
variable {s : State} {args : Array Value}
theorem lo_N (hts : ∀ w ∈ lw_tbl, w.before args s = true) : xx_N s := by
  refine ⟨fun q hq => ?_, fun Cn hC => ?_⟩
  · simp only [xw_q, List.mem_cons, List.not_mem_nil, or_false] at hq
    rcases hq with rfl | rfl | rfl
    · exact va_Nw.of rfl (hts _ wn_0)
    · exact va_Nw.of rfl (hts _ wn_1)
    · exact va_Nw.of rfl (hts _ wn_2)
  · simp only [xw_o, List.mem_cons, List.not_mem_nil, or_false] at hC
    rcases hC with rfl | rfl | rfl | rfl | rfl | rfl | rfl | rfl | rfl
    · exact va_AO.of (hts _ wo_0)
    · exact va_AO.of (hts _ wo_1)
    · exact va_AO.of (hts _ wo_2)
    · exact va_AO.of (hts _ wo_3)
    · exact va_AO.of (hts _ wo_4)
    · exact va_AO.of (hts _ wo_5)
    · exact va_AO.of (hts _ wo_6)
    · exact va_AO.of (hts _ wo_7)
    · exact va_AO.of (hts _ wo_8)
theorem lo_pa {ty : FieldType} (h : (Cond.arrayClass ty).before args s = true) : ∃ c : ClassId, ArrOfT s c ty ∧ s.vm.findClass ("[" ++ ty.toString) = some c := by
  obtain ⟨c, k, comp, h1, h2, h3⟩ := Cond.arrayClass_spec h
  exact ⟨c, fun n z => ⟨fun k h => (by cases h), k, h2, comp, h3⟩, h1⟩
theorem lo_qa {Cn : String} (h : va_AO Cn s) : ∃ c : ClassId, ArrOfT s c (.object Cn) ∧ va_RA s c (.object Cn) := by
  obtain ⟨comp, c, k, h1, h2, h3, h4, h5⟩ := Cond.arrayOver_spec h
  exact ⟨c, fun n z => ⟨fun k h => (by cases h), k, h3, comp, h4⟩, ⟨k, comp, h3, h4, h1, h5⟩⟩
theorem lo_K (hts : ∀ w ∈ lw_tbl, w.before args s = true) : ∃ (D : va_G) (tc : Nat → ClassId), ∀ (om : Nat) (ad : Nat → Nat) (bs : Nat) (g : Bool), va_K D classes (xx_tys (D, tc, om, ad, bs, g)) s := by
  have ht : ∀ w ∈ w_all, w.before args s = true := fun w hw => hts w (w_sub w hw)
  have hN := lo_N hts
  obtain ⟨c0, i0, k0⟩ := u_known ht xl_ES (ht _ m_806)
  obtain ⟨c1, i1, k1⟩ := u_known ht xl_Coordinator (ht _ m_73)
  obtain ⟨c2, i2, k2⟩ := u_known ht xl_Writes (ht _ m_37)
  obtain ⟨c3, i3, k3⟩ := u_known ht xl_Entry (ht _ m_293)
  obtain ⟨c4, i4, k4⟩ := u_known ht xl_Message (ht _ m_6)
  obtain ⟨c5, i5, k5⟩ := u_known ht xl_Line (ht _ m_67)
  obtain ⟨c6, i6, k6⟩ := u_known ht xl_Question (ht _ m_240)
  obtain ⟨c7, i7, k7⟩ := u_known ht xl_OnWay (ht _ m_290)
  obtain ⟨c8, i8, k8⟩ := u_known ht xl_Master (ht _ m_92)
  obtain ⟨c9, i9, k9⟩ := u_known ht xl_Log (ht _ m_77)
  obtain ⟨c10, i10, k10⟩ := u_known ht xl_Storage (ht _ m_82)
  obtain ⟨c11, i11, k11⟩ := u_known ht xl_Client (ht _ m_87)
  obtain ⟨c12, i12, k12⟩ := u_known ht xl_EM (ht _ m_925)
  obtain ⟨t0, a0, r0⟩ := lo_pa (ht _ m_18)
  obtain ⟨t1, a1, r1⟩ := lo_pa (ht _ m_462)
  obtain ⟨t2, a2, r2⟩ := lo_qa (hN.2 Rn_Coordinator (List.mem_of_getElem? (i := 0) rfl))
  obtain ⟨t3, a3, r3⟩ := lo_qa (hN.2 Rn_Log (List.mem_of_getElem? (i := 1) rfl))
  obtain ⟨t4, a4, r4⟩ := lo_qa (hN.2 Rn_Storage (List.mem_of_getElem? (i := 2) rfl))
  obtain ⟨t5, a5, r5⟩ := lo_qa (hN.2 Rn_Client (List.mem_of_getElem? (i := 3) rfl))
  obtain ⟨t6, a6, r6⟩ := lo_qa (hN.2 Rn_Master (List.mem_of_getElem? (i := 4) rfl))
  obtain ⟨t7, a7, r7⟩ := lo_qa (hN.2 Rn_Message (List.mem_of_getElem? (i := 5) rfl))
  obtain ⟨t8, a8, r8⟩ := lo_qa (hN.2 Rn_Entry (List.mem_of_getElem? (i := 6) rfl))
  obtain ⟨t9, a9, r9⟩ := lo_qa (hN.2 Rn_Question (List.mem_of_getElem? (i := 7) rfl))
  obtain ⟨t10, a10, r10⟩ := lo_qa (hN.2 Rn_OnWay (List.mem_of_getElem? (i := 8) rfl))
  refine ⟨(fun c => [c0, c1, c2, c3, c4, c5, c6, c7, c8, c9, c10, c11, c12].getD c 0, fun c => [i0, i1, i2, i3, i4, i5, i6, i7, i8, i9, i10, i11, i12].getD c i0), fun k => [t0, t1, t2, t3, t4, t5, t6, t7, t8, t9, t10].getD k 0, fun om ad bs g => ⟨fun c q hq => ?_, fun k q hq => ?_⟩⟩
  · match c, hq with
    | 0, hq => cases hq; exact k0
    | 1, hq => cases hq; exact k1
    | 2, hq => cases hq; exact k2
    | 3, hq => cases hq; exact k3
    | 4, hq => cases hq; exact k4
    | 5, hq => cases hq; exact k5
    | 6, hq => cases hq; exact k6
    | 7, hq => cases hq; exact k7
    | 8, hq => cases hq; exact k8
    | 9, hq => cases hq; exact k9
    | 10, hq => cases hq; exact k10
    | 11, hq => cases hq; exact k11
    | 12, hq => cases hq; exact k12
    | c + 13, hq => cases hq
  · match k, hq with
    | 0, hq => cases hq; exact ⟨a0, r0⟩
    | 1, hq => cases hq; exact ⟨a1, r1⟩
    | 2, hq => cases hq; exact ⟨a2, r2⟩
    | 3, hq => cases hq; exact ⟨a3, r3⟩
    | 4, hq => cases hq; exact ⟨a4, r4⟩
    | 5, hq => cases hq; exact ⟨a5, r5⟩
    | 6, hq => cases hq; exact ⟨a6, r6⟩
    | 7, hq => cases hq; exact ⟨a7, r7⟩
    | 8, hq => cases hq; exact ⟨a8, r8⟩
    | 9, hq => cases hq; exact ⟨a9, r9⟩
    | 10, hq => cases hq; exact ⟨a10, r10⟩
    | k + 11, hq => cases hq

end LOD
