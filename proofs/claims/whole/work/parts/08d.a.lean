theorem s_reg {K : Nat} (hK : K < 65536) : x_regionOf (nI K) = nI (K / 16384) ∧ m_regionOf (nI K) = nI (K / 16384) := by
  constructor
  · unfold x_regionOf jushr
    rw [pk_ushrN (by omega) 14 14 (by decide), pk_andN (by omega) 2 (by decide), Nat.mod_eq_of_lt (by omega)]
  · unfold m_regionOf
    rw [pk_shrN (by omega) (14 &&& 31) 14 (by decide), pk_andN (by omega) 2 (by decide), Nat.mod_eq_of_lt (by omega)]
theorem s_page {K : Nat} (hK : K < 65536) : x_pageOf (nI K) = nI (K / 16 % 1024) ∧ m_pageOf (nI K) = nI (K / 16 % 1024) := by
  constructor
  · unfold x_pageOf jushr
    rw [pk_ushrN (by omega) 4 4 (by decide), pk_andN (by omega) 10 (by decide)]
  · unfold m_pageOf
    rw [pk_shrN (by omega) (4 &&& 31) 4 (by decide), pk_andN (by omega) 10 (by decide)]
def s_sl (K : Nat) : Nat := if K < 32768 then K / 16 % 8 else 8 + K / 16 % 8
theorem s_xsl {K : Nat} (hK : K < 65536) : x_slotOf (nI K) = nI (s_sl K) := by
  unfold x_slotOf s_sl
  rw [(s_reg hK).1, (s_page hK).1, show (8 : Int32) = nI 8 from rfl, pk_rem (by omega) (by decide) (by decide), show K / 16 % 1024 % 8 = K / 16 % 8 by omega]
  by_cases h : K < 32768
  · rw [if_pos (show nI (K / 16384) < 2 from nI_lt (b := 2) (by omega) (by decide)), if_pos h]
  · rw [if_neg (show ¬ nI (K / 16384) < 2 from nI_nlt (b := 2) (by omega) (by omega)), if_neg h, nI_add]
theorem s_msl {K : Nat} (hK : K < 49152) : m_slot (nI K) = nI (s_sl K) := by
  unfold m_slot s_sl
  rw [(s_reg (by omega)).2, (s_page (by omega)).2, show (8 : Int32) = nI 8 from rfl, pk_rem (by omega) (by decide) (by decide), show K / 16 % 1024 % 8 = K / 16 % 8 by omega]
  by_cases h : K < 32768
  · rw [if_neg (fun e => by have := (nI_eq (b := 2) (by omega) (by decide)).mp e; omega), if_pos h, Int32.zero_add]
  · rw [if_pos (by rw [show K / 16384 = 2 by omega]; rfl), if_neg h, nI_add]
theorem s_msl3 {K : Nat} (hK : K < 65536) (h3 : 49152 ≤ K) : m_slot (nI K) = nI (K / 16 % 8) := by
  unfold m_slot
  rw [(s_reg (by omega)).2, (s_page (by omega)).2, show (8 : Int32) = nI 8 from rfl, pk_rem (by omega) (by decide) (by decide), show K / 16 % 1024 % 8 = K / 16 % 8 by omega]
  rw [if_neg (fun e => by have := (nI_eq (b := 2) (by omega) (by decide)).mp e; omega), Int32.zero_add]
theorem s_d16 {K : Nat} (hK : K < 65536) : nI K / 16 = nI (K / 16) := pk_div (d := 16) (by omega) (by decide) (by decide)
theorem s_r16 {K : Nat} (hK : K < 65536) : nI K - nI K / 16 * 16 = nI (K % 16) := pk_rem (d := 16) (by omega) (by decide) (by decide)
theorem s_a15 {K : Nat} (hK : K < 65536) : nI K &&& 15 = nI (K % 16) := pk_andN (by omega) 4 (by decide)
theorem s_and20 {K : Nat} (hK : K < 65536) : K &&& 65520 = K / 16 * 16 := by
  have h : K / 16 * 16 = (K >>> 4) <<< 4 := by rw [Nat.shiftRight_eq_div_pow, Nat.shiftLeft_eq]
  rw [h]
  apply Nat.eq_of_testBit_eq
  intro i
  rw [Nat.testBit_and, Nat.testBit_shiftLeft, Nat.testBit_shiftRight]
  rcases Nat.lt_or_ge i 16 with hi | hi
  · have hm : ∀ i, i < 16 → Nat.testBit 65520 i = decide (4 ≤ i) := by decide +kernel
    rw [hm i hi]
    by_cases h4 : 4 ≤ i
    · simp [h4, show 4 + (i - 4) = i by omega]
    · simp [h4]
  · have hz : K.testBit i = false := Nat.testBit_lt_two_pow (Nat.lt_of_lt_of_le hK (Nat.pow_le_pow_right (n := 2) (by decide) hi))
    rw [hz, Bool.false_and, show 4 + (i - 4) = i by omega, hz, Bool.and_false]
theorem s_m20 {K : Nat} (hK : K < 65536) : nI K &&& 65520 = nI (K / 16 * 16) := by
  show nI K &&& nI 65520 = _
  rw [nx_and, s_and20 hK]
-- shifts that keep to the word agree
theorem s_shr (v : Int32) (n w : Nat) (hn : n < 32) (hw : n + w ≤ 32) (M : Int32) (hM : ∀ i, i < 32 → bt M i = decide (i < w)) : (v >>> (nI n &&& 31)) &&& M = (jushr v (nI n)) &&& M := by
  apply b_ext
  intro i hi
  unfold jushr
  rw [b_and, b_and, b_sshr n hn v hi, b_ushr n hn v i, hM i hi]
  by_cases h : i < w
  · rw [if_pos (by omega)]
  · simp [h]
theorem s_code (v : Int32) : (v >>> (27 &&& 31)) &&& 15 = (jushr v 27) &&& 15 := s_shr v 27 4 (by decide) (by decide) 15 (by decide +kernel)
theorem s_wbit (v : Int32) : (v >>> (26 &&& 31)) &&& 1 = (jushr v 26) &&& 1 := s_shr v 26 1 (by decide) (by decide) 1 (by decide +kernel)
theorem s_wr (v : Int32) : ((v >>> (26 &&& 31)) &&& 1) = 0 ↔ (v &&& 67108864) = 0 := by
  rw [s_wbit]
  exact nf_bit v 26 (by decide)
theorem s_val (v : Int32) : (v &&& (-2147483648)) = 0 ↔ ¬ v < 0 := by
  have h1 : v < 0 ↔ v.toBitVec.msb = true := by
    rw [Int32.lt_iff_toBitVec_slt]
    show v.toBitVec.slt 0#32 = true ↔ _
    rw [BitVec.slt_zero_eq_msb]
  have hb : (-2147483648 : Int32).toBitVec = BitVec.twoPow 32 31 := by decide +kernel
  rw [h1, BitVec.msb_eq_getLsbD_last]
  constructor
  · intro e h
    have e2 := congrArg (fun z => bt z 31) e
    have e2 : bt (v &&& (-2147483648)) 31 = bt 0 31 := e2
    rw [b_and, b_0] at e2
    have h2 : bt v 31 = true := h
    have h3 : bt (-2147483648) 31 = true := by decide +kernel
    rw [h2, h3] at e2
    cases e2
  · intro h
    apply b_ext
    intro i hi
    rw [b_and, b_0]
    have hM : ∀ i, i < 32 → bt (-2147483648) i = decide (i = 31) := by decide +kernel
    rw [hM i hi]
    by_cases q : i = 31
    · subst q
      have h2 : bt v 31 = false := by
        cases hz : bt v 31 with
        | false => rfl
        | true => exact absurd hz h
      rw [h2]; rfl
    · simp [q]
theorem s_valid (v : Int32) : x_isValid v = 0 ↔ ¬ v < 0 := by
  unfold x_isValid
  by_cases h : (v &&& (-2147483648)) = 0
  · rw [if_pos h]; exact ⟨fun _ => (s_val v).mp h, fun _ => rfl⟩
  · rw [if_neg h]; exact ⟨fun e => absurd e (by decide), fun e => absurd ((s_val v).mpr e) h⟩
theorem s_phys {K : Nat} (hK : K < 65536) (v : Int32) : x_physical v (nI K) = (16 : Int32) * (v &&& 4095) + (nI K - nI K / 16 * 16) ∧ ∃ q : Nat, q < 65536 ∧ x_physical v (nI K) = nI q := by
  obtain ⟨Q, hQ, eQ⟩ := pk_andE v (m := 4095) 12 (by decide)
  unfold x_physical x_placeInPage
  rw [s_a15 hK, s_r16 hK, eQ, show (16 : Int32) = nI 16 from rfl, pk_mul, pk_mul, nI_add, nI_add, Nat.mul_comm 16 Q]
  exact ⟨rfl, Q * 16 + K % 16, by omega, rfl⟩
theorem s_ge0 {q : Nat} (h : q < 65536) : (0 : Int32) ≤ nI q := nI_pos' (by omega)
theorem s_there {n : Nat} {σ : XS} {μ : MS} {a : Int32} (hn : n ≤ 2048) : x_inMemory n σ a 1 = m_isThere n μ a := by
  unfold x_inMemory m_isThere
  by_cases h : a < 0
  · rw [if_pos h, if_pos h]
  · rw [if_neg h, if_neg h]
    obtain ⟨j, hj, rfl⟩ := nI_of h
    have e : (nI n - 1) < nI j ↔ nI n ≤ nI j := by
      rw [show (1 : Int32) = nI 1 from rfl, Int32.lt_iff_toInt_lt, pk_sub_toInt (by omega) (by decide), Int32.le_iff_toInt_le, nI_toInt hj, nI_toInt (by omega)]
      omega
    by_cases h2 : nI n ≤ nI j
    · rw [if_pos h2, if_pos (e.mpr h2)]
    · rw [if_neg h2, if_neg (fun z => h2 (e.mp z))]
theorem s_four {n : Nat} {σ : XS} {μ : MS} {a : Int32} : x_inMemory n σ a 4 = m_areFour n μ a := rfl
theorem s_wrap (a : Int32) (j : Nat) : ((a &&& 65535) + nI j) &&& 65535 = (a + nI j) &&& 65535 := by
  rw [pk_and _ (m := 65535) 16 (by decide), pk_and (a + nI j) (m := 65535) 16 (by decide)]
  congr 1
  rw [Int32.toBitVec_add, Int32.toBitVec_add, BitVec.toNat_add, BitVec.toNat_add, pk_and a (m := 65535) 16 (by decide), pk_tn (Nat.lt_of_lt_of_le (Nat.mod_lt _ (by decide)) (by decide))]
  omega
theorem s_wrap0 (a : Int32) : (a &&& 65535) &&& 65535 = a &&& 65535 := by
  obtain ⟨K, hK, e⟩ := x_mask16 a
  rw [e, pk_andN (by omega) 16 (by decide), Nat.mod_eq_of_lt (by omega)]
