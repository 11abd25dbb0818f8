theorem s_ini_n {n : Nat} : m_ini n m_mu0 0 = m_ini 0 m_mu0 0 := by
  have h : ∀ (f : Nat) (i : Int32) (τ : MS), m_ini_l1 n 0 f i τ = m_ini_l1 0 0 f i τ := by
    intro f
    induction f with
    | zero => intro i τ; rfl
    | succ f ih =>
      intro i τ
      by_cases c : (16 : Int32) ≤ i
      · exact (if_pos c).trans (if_pos c).symm
      · exact (if_neg c).trans ((ih _ _).trans (if_neg c).symm)
  exact h _ _ _
def s_kq (τ τ' : MS) : Prop := m_mem τ' = m_mem τ ∧ m_bas τ' = m_bas τ ∧ m_len τ' = m_len τ ∧ m_on τ' = m_on τ ∧ m_fa τ' = m_fa τ ∧ m_li τ' = m_li τ
theorem s_kr {τ : MS} : s_kq τ τ := ⟨rfl, rfl, rfl, rfl, rfl, rfl⟩
theorem s_kc {τ τ' : MS} {k w r : Int32} (h : s_kq τ τ') : s_kq τ (m_code 0 τ' k w r) := h
theorem s_ini_k : ∀ (f : Nat) (i : Int32) (τ : MS), s_kq τ (m_ini_l1 0 0 f i τ) := by
  intro f
  induction f with
  | zero => intro i τ; exact s_kr
  | succ f ih =>
    intro i τ
    by_cases c : (16 : Int32) ≤ i
    · rw [show m_ini_l1 0 0 (f + 1) i τ = _ from if_pos c]
      exact s_kc (s_kc (s_kc (s_kc (s_kc (s_kc (s_kc (s_kc (s_kc (s_kc (s_kc (s_kc (s_kc (s_kc s_kr)))))))))))))
    · rw [show m_ini_l1 0 0 (f + 1) i τ = _ from if_neg c]
      have h : s_kq τ (m_sPg τ (upd (m_pg τ) (i).toNatClampNeg (-1))) := ⟨rfl, rfl, rfl, rfl, rfl, rfl⟩
      obtain ⟨h1, h2, h3, h4, h5, h6⟩ := ih (i + 1) (m_sPg τ (upd (m_pg τ) (i).toNatClampNeg (-1)))
      obtain ⟨g1, g2, g3, g4, g5, g6⟩ := h
      exact ⟨h1.trans g1, h2.trans g2, h3.trans g3, h4.trans g4, h5.trans g5, h6.trans g6⟩
theorem s_ini_t : ∀ j, j < 16 → m_wr (m_ini 0 m_mu0 0) j = x_mw j + 1 ∧ m_rd (m_ini 0 m_mu0 0) j = x_mr j + 1 ∧ m_pg (m_ini 0 m_mu0 0) j = -1 ∧ x_kp x_init j = -1 := by decide +kernel
theorem s_xn (v : Int32) : x_n v ≤ 2048 := by
  unfold x_n
  by_cases h1 : v < 4
  · rw [if_pos h1]; decide
  · rw [if_neg h1]
    by_cases h2 : (128 : Int32) < v
    · rw [if_pos h2]; decide
    · rw [if_neg h2]
      obtain ⟨K, rfl, h4, h8⟩ := x_pages h1 h2
      rw [nI_clamp (by omega)]; omega
theorem s_init (v : Int32) : sR (x_n v) x_init (m_ini (x_n v) m_mu0 0) ∧ x_n v ≤ 2048 := by
  refine ⟨?_, s_xn v⟩
  rw [s_ini_n]
  obtain ⟨k1, k2, k3, k4, k5, k6⟩ := s_ini_k 17 0 m_mu0
  refine ⟨fun j _ => ?_, fun j _ => ?_, ?_, ?_, fun j _ => ?_, fun j hj => ⟨(s_ini_t j hj).1, (s_ini_t j hj).2.1⟩, fun j hj => Or.inl ⟨(s_ini_t j hj).2.2.2, (s_ini_t j hj).2.2.1⟩⟩
  · show m_mem (m_ini_l1 0 0 17 0 m_mu0) j = _
    rw [k1]; show (0 : Int32) = 0 &&& 255; decide
  · show m_bas (m_ini_l1 0 0 17 0 m_mu0) j = _ ∧ m_len (m_ini_l1 0 0 17 0 m_mu0) j = _ ∧ _
    rw [k2, k3]; exact ⟨rfl, rfl, ⟨0, by decide, rfl⟩, ⟨0, by decide, rfl⟩⟩
  · show _ = m_on (m_ini_l1 0 0 17 0 m_mu0)
    rw [k4]; rfl
  · show _ = m_fa (m_ini_l1 0 0 17 0 m_mu0)
    rw [k5]; rfl
  · show _ = m_li (m_ini_l1 0 0 17 0 m_mu0) j
    rw [k6]; rfl
