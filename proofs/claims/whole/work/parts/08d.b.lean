-- what the relation gives of kept entries
theorem s_cnt {n : Nat} {σ : XS} {μ : MS} {K : Nat} (hK : K < 65536) (hR : sR n σ μ) : x_counts n σ (x_slotOf (nI K)) (nI K) = m_isKept n μ (nI K) := by
  have hk := hR.2.2.2.2.2.2
  unfold x_counts m_isKept
  rw [s_xsl hK, s_d16 hK, s_m20 hK]
  rcases Nat.lt_or_ge K 49152 with h3 | h3
  · rw [s_msl h3]
    have hs : s_sl K < 16 := by unfold s_sl; split <;> omega
    rw [nI_clamp (by omega)]
    rcases hk (s_sl K) hs with ⟨q1, q2⟩ | ⟨P, hP, hj, q1, q2, -⟩
    · rw [q1, q2, if_neg (fun e => x_nm1 (by omega) e.symm), if_neg (fun e => x_nm1 (by omega) e.symm)]
    · rw [q1, q2]
      by_cases h : P = K / 16
      · rw [if_pos (by rw [h]), if_pos (by rw [h, Nat.mul_comm])]
      · rw [if_neg (fun e => h ((nI_eq (by omega) (by omega)).mp e)), if_neg (fun e => h (by have := (nI_eq (by omega) (by omega)).mp e; omega))]
  · rw [s_msl3 hK h3]
    have hs : s_sl K < 16 := by unfold s_sl; split <;> omega
    rw [nI_clamp (by omega), nI_clamp (by omega)]
    have h1 : ¬ x_kp σ (s_sl K) = nI (K / 16) := by
      rcases hk (s_sl K) hs with ⟨q1, -⟩ | ⟨P, hP, hj, q1, -⟩
      · rw [q1]; exact fun e => x_nm1 (by omega) e.symm
      · rw [q1]; exact fun e => by have := (nI_eq (by omega) (by omega)).mp e; omega
    have h2 : ¬ m_pg μ (K / 16 % 8) = nI (K / 16 * 16) := by
      rcases hk (K / 16 % 8) (by omega) with ⟨-, q2⟩ | ⟨P, hP, hj, -, q2, -⟩
      · rw [q2]; exact fun e => x_nm1 (by omega) e.symm
      · rw [q2]; exact fun e => by have := (nI_eq (by omega) (by omega)).mp e; omega
    rw [if_neg h1, if_neg h2]
theorem s_cntd {n : Nat} {σ : XS} {μ : MS} {K : Nat} (hK : K < 65536) (hR : sR n σ μ) (c : ¬ x_counts n σ (x_slotOf (nI K)) (nI K) = 0) : K < 49152 ∧ x_ke σ (x_slotOf (nI K)).toNatClampNeg = m_en μ (m_slot (nI K)).toNatClampNeg ∧ x_kpl σ (x_slotOf (nI K)).toNatClampNeg = m_pc μ (m_slot (nI K)).toNatClampNeg ∧ x_in4 n (x_kpl σ (x_slotOf (nI K)).toNatClampNeg) := by
  have hk := hR.2.2.2.2.2.2
  unfold x_counts at c
  rw [s_xsl hK, s_d16 hK] at c
  have hs : s_sl K < 16 := by unfold s_sl; split <;> omega
  rw [nI_clamp (by omega)] at c
  split at c
  · rename_i h
    rcases hk (s_sl K) hs with ⟨q1, -⟩ | ⟨P, hP, hj, q1, q2, q3, q4, q5⟩
    · rw [q1] at h; exact absurd h.symm (x_nm1 (by omega))
    · rw [q1] at h
      have h2 := (nI_eq (by omega) (by omega)).mp h
      have h3 : K < 49152 := by omega
      refine ⟨h3, ?_⟩
      rw [s_xsl hK, s_msl h3, nI_clamp (by omega)]
      exact ⟨q3, q4, q5⟩
  · exact absurd rfl c
theorem s_bl {n : Nat} {σ : XS} {μ : MS} (hR : sR n σ μ) {j : Nat} (hj : j < 3) : m_bas μ j = x_bas σ j ∧ m_len μ j = x_len σ j ∧ (∃ K : Nat, K < 65536 ∧ x_bas σ j = nI K) ∧ (∃ K : Nat, K < 65536 ∧ x_len σ j = nI K) := hR.2.1 j hj
theorem s_ins {n : Nat} {σ : XS} {μ : MS} {K : Nat} (hK : K < 65536) (hR : sR n σ μ) : x_inside n σ (x_regionOf (nI K)) (x_pageOf (nI K)) = m_isInside n μ (nI K) := by
  unfold x_inside m_isInside
  rw [(s_reg hK).1, (s_reg hK).2, (s_page hK).1, (s_page hK).2]
  rcases (show K / 16384 = 0 ∨ K / 16384 = 1 ∨ K / 16384 = 2 ∨ K / 16384 = 3 by omega) with h | h | h | h
  · rw [h]
    simp only [if_pos (show nI 0 < 3 by decide), if_neg (show ¬ nI 0 = 1 by decide), if_neg (show ¬ nI 0 = 3 by decide)]
    rw [show (nI 0).toNatClampNeg = 0 by decide, (s_bl hR (by decide)).2.1]
  · rw [h]
    simp only [if_pos (show nI 1 < 3 by decide), if_pos (show nI 1 = 1 by decide)]
    rw [show (nI 1).toNatClampNeg = 1 by decide, show (1 : Int32).toNatClampNeg = 1 by decide, (s_bl hR (by decide)).2.1]
  · rw [h]
    simp only [if_pos (show nI 2 < 3 by decide), if_neg (show ¬ nI 2 = 1 by decide), if_neg (show ¬ nI 2 = 3 by decide)]
    rw [show (nI 2).toNatClampNeg = 2 by decide, (s_bl hR (by decide)).2.1]
  · rw [h]
    simp only [if_neg (show ¬ nI 3 < 3 by decide), if_neg (show ¬ nI 3 = 1 by decide), if_pos (show nI 3 = 3 by decide)]
theorem s_mem {n : Nat} {σ : XS} {μ : MS} {a : Int32} (hn : n ≤ 2048) (hR : sR n σ μ) (h : vp_in a n) : m_mem μ a.toNatClampNeg = x_byteAt n σ a := by
  obtain ⟨j, hj, rfl⟩ := vp_in_of h (by omega)
  unfold x_byteAt
  rw [nI_clamp (by omega)]
  exact hR.1 j hj
theorem s_ent {n : Nat} {σ : XS} {μ : MS} {a : Int32} (hn : n ≤ 2048) (hR : sR n σ μ) (h : x_in4 n a) : m_four n μ a = x_entryAt n σ a := by
  unfold m_four x_entryAt
  rw [s_mem hn hR h.1, s_mem hn hR h.2.1, s_mem hn hR h.2.2.1, s_mem hn hR h.2.2.2]
theorem s_tab : ∀ j, j < 16 → -1 ≤ (x_mw j).toInt ∧ (x_mw j).toInt ≤ 3 ∧ -1 ≤ (x_mr j).toInt ∧ (x_mr j).toInt ≤ 3 ∧ (x_mw j + 1).toInt = (x_mw j).toInt + 1 ∧ (x_mr j + 1).toInt = (x_mr j).toInt + 1 := by decide +kernel
theorem s_cmp {a b : Int32} (h : (a + 1).toInt = a.toInt + 1) : a + 1 ≤ b ↔ a < b := by
  rw [Int32.le_iff_toInt_le, Int32.lt_iff_toInt_lt, h]; omega
theorem s_giv {n : Nat} {σ : XS} {μ : MS} {md b : Int32} (hR : ∀ j, j < 16 → m_wr μ j = x_mw j + 1 ∧ m_rd μ j = x_mr j + 1) : x_gives (m_lk μ) md b = m_isRight n μ (md &&& 3) b := by
  obtain ⟨j, hj, e⟩ := pk_andE (jushr (m_lk μ) 27) (m := 15) 4 (by decide)
  have hj : j < 16 := hj
  unfold x_gives m_isRight
  rw [s_code, e, nI_clamp (by omega), (hR j hj).1, (hR j hj).2]
  by_cases hb : b = 0
  · rw [if_pos hb, if_pos hb]
    by_cases h : x_mr j < (md &&& 3)
    · rw [if_pos h, if_pos ((s_cmp (s_tab j hj).2.2.2.2.2).mpr h)]
    · rw [if_neg h, if_neg (fun z => h ((s_cmp (s_tab j hj).2.2.2.2.2).mp z))]
  · rw [if_neg hb, if_neg hb]
    by_cases h : x_mw j < (md &&& 3)
    · rw [if_pos h, if_pos ((s_cmp (s_tab j hj).2.2.2.2.1).mpr h)]
    · rw [if_neg h, if_neg (fun z => h ((s_cmp (s_tab j hj).2.2.2.2.1).mp z))]
theorem s_ad {n : Nat} {σ : XS} {μ : MS} (v : Int32) (h : sR n σ μ) : sR n σ (m_sAd μ v) := h
theorem s_lk {n : Nat} {σ : XS} {μ : MS} (v : Int32) (h : sR n σ μ) : sR n σ (m_sLk μ v) := h
theorem s_keep {n : Nat} {σ : XS} {μ : MS} {K : Nat} {v q : Int32} (hK : K < 49152) (hR : sR n σ μ) (hq : x_in4 n q) : sR n (x_keepEntry n σ (x_slotOf (nI K)) (nI K) v q) (m_keeps n μ (nI K) v q) := by
  have hs : s_sl K < 16 := by unfold s_sl; split <;> omega
  refine ⟨hR.1, hR.2.1, hR.2.2.1, hR.2.2.2.1, hR.2.2.2.2.1, hR.2.2.2.2.2.1, fun j hj => ?_⟩
  show sK n (upd (x_kp σ) _ _ j) (upd (m_pg μ) _ _ j) (upd (x_ke σ) _ _ j) (upd (m_en μ) _ _ j) (upd (x_kpl σ) _ _ j) (upd (m_pc μ) _ _ j) j
  rw [s_xsl (by omega), s_msl hK, nI_clamp (by omega), s_d16 (by omega), s_m20 (by omega)]
  by_cases h : j = s_sl K
  · subst h
    rw [pk_us, pk_us, pk_us, pk_us, pk_us, pk_us]
    refine Or.inr ⟨K / 16, by omega, ?_, rfl, by rw [Nat.mul_comm], rfl, rfl, hq⟩
    unfold s_sl
    by_cases z : K < 32768
    · rw [if_pos z, if_pos (by omega)]
    · rw [if_neg z, if_neg (by omega)]
  · rw [pk_un h, pk_un h, pk_un h, pk_un h, pk_un h, pk_un h]
    exact hR.2.2.2.2.2.2 j hj
