def bt (x : Int32) (i : Nat) : Bool := x.toBitVec.getLsbD i
theorem b_ext {x y : Int32} (h : ∀ i, i < 32 → bt x i = bt y i) : x = y := Int32.toBitVec_inj.mp (BitVec.eq_of_getLsbD_eq (fun i hi => h i hi))
theorem b_or (x y : Int32) (i : Nat) : bt (x ||| y) i = (bt x i || bt y i) := by unfold bt; rw [Int32.toBitVec_or, BitVec.getLsbD_or]
theorem b_and (x y : Int32) (i : Nat) : bt (x &&& y) i = (bt x i && bt y i) := by unfold bt; rw [Int32.toBitVec_and, BitVec.getLsbD_and]
theorem b_0 (i : Nat) : bt 0 i = false := BitVec.getLsbD_zero
theorem s_l : ∀ n, n < 32 → ((nI n &&& 31).toBitVec.smod 32).toNat = n := by decide +kernel
theorem b_shl (n : Nat) (hn : n < 32) (x : Int32) {i : Nat} (hi : i < 32) : bt (x <<< (nI n &&& 31)) i = (decide (n ≤ i) && bt x (i - n)) := by
  unfold bt
  rw [Int32.toBitVec_shiftLeft]
  show (x.toBitVec <<< ((nI n &&& 31).toBitVec.smod 32).toNat).getLsbD i = _
  rw [s_l n hn, BitVec.getLsbD_shiftLeft]
  rcases Nat.lt_or_ge i n with h | h
  · simp [h, Nat.not_le.mpr h]
  · simp [hi, h, Nat.not_lt.mpr h]
theorem b_sshr (n : Nat) (hn : n < 32) (x : Int32) {i : Nat} (hi : i < 32) : bt (x >>> (nI n &&& 31)) i = if n + i < 32 then bt x (n + i) else bt x 31 := by
  unfold bt
  rw [Int32.toBitVec_shiftRight]
  show (x.toBitVec.sshiftRight ((nI n &&& 31).toBitVec.smod 32).toNat).getLsbD i = _
  rw [s_l n hn, BitVec.getLsbD_sshiftRight, BitVec.msb_eq_getLsbD_last]
  simp [hi]
theorem nf_sh : ∀ l, l < 32 → ((1 : Int32) <<< (nI l &&& 31)).toBitVec = BitVec.twoPow 32 l := by decide +kernel
theorem nf_tp : ∀ l, l < 32 → BitVec.twoPow 32 l ≠ 0#32 := by decide +kernel
-- a bit, as the class and as the reference test it
theorem bi_c (m : Int32) {k : Nat} (hk : k < 32) : (m &&& ((1 : Int32) <<< (nI k &&& 31))) = 0 ↔ bt m k = false := by
  unfold bt
  rw [← Int32.toBitVec_inj, Int32.toBitVec_and, nf_sh k hk, BitVec.and_twoPow]
  cases hb : m.toBitVec.getLsbD k
  · exact ⟨fun _ => rfl, fun _ => by simp⟩
  · exact ⟨fun z => absurd ((if_pos rfl).symm.trans z) (nf_tp k hk), fun z => by cases z⟩
theorem bi_1 (y : Int32) : (y &&& 1) = 1 ↔ bt y 0 = true := by
  unfold bt
  rw [← Int32.toBitVec_inj, Int32.toBitVec_and]
  show (y.toBitVec &&& 1#32) = 1#32 ↔ _
  rw [BitVec.and_one_eq_setWidth_ofBool_getLsbD]
  cases hb : y.toBitVec.getLsbD 0
  · exact ⟨fun z => absurd z (by decide), fun z => by cases z⟩
  · exact ⟨fun _ => rfl, fun _ => by decide⟩
theorem bi_m (m : Int32) {k : Nat} (hk : k < 32) : ((m >>> (nI k &&& 31)) &&& 1) = 1 ↔ bt m k = true := by
  rw [bi_1, b_sshr k hk m (by omega), Nat.add_zero, if_pos hk]
theorem bi_0 (m : Int32) {k : Nat} (hk : k < 32) : ((m >>> (nI k &&& 31)) &&& 1) = 0 ↔ bt m k = false := by
  have h := bi_m m hk
  cases hb : bt m k
  · refine ⟨fun _ => rfl, fun _ => ?_⟩
    apply b_ext
    intro i hi
    rw [b_and, b_0]
    by_cases h0 : i = 0
    · subst h0
      rw [b_sshr k hk m (by omega), Nat.add_zero, if_pos hk, hb]
      rfl
    · have : bt 1 i = false := (by decide +kernel : ∀ i, i < 32 → i ≠ 0 → bt 1 i = false) i hi h0
      rw [this, Bool.and_false]
  · refine ⟨fun z => ?_, fun z => by cases z⟩
    have := h.mpr hb
    rw [z] at this
    exact absurd this (by decide)
theorem bi_or (m : Int32) {k i : Nat} (hk : k < 32) (hi : i < 32) : bt (m ||| ((1 : Int32) <<< (nI k &&& 31))) i = (bt m i || decide (i = k)) := by
  rw [b_or]
  congr 1
  unfold bt
  rw [nf_sh k hk, BitVec.getLsbD_twoPow]
  by_cases h : k = i
  · subst h; simp [hk]
  · simp [h, Ne.symm h]
