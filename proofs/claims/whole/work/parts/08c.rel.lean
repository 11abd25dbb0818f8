-- the two states tell the same
def sK (n : Nat) (kp pg ke en kpl pc : Int32) (j : Nat) : Prop := (kp = -1 ∧ pg = -1) ∨ ∃ P : Nat, P < 3072 ∧ j = (if P < 2048 then P % 8 else 8 + P % 8) ∧ kp = nI P ∧ pg = nI (16 * P) ∧ ke = en ∧ kpl = pc ∧ x_in4 n kpl
def sR (n : Nat) (σ : XS) (μ : MS) : Prop :=
  (∀ j, j < n → m_mem μ j = x_mem σ j &&& 255) ∧
  (∀ j, j < 3 → m_bas μ j = x_bas σ j ∧ m_len μ j = x_len σ j ∧ (∃ K : Nat, K < 65536 ∧ x_bas σ j = nI K) ∧ (∃ K : Nat, K < 65536 ∧ x_len σ j = nI K)) ∧
  x_mp σ = m_on μ ∧ x_fa σ = m_fa μ ∧
  (∀ j, j < 4 → x_pl σ j = m_li μ j) ∧
  (∀ j, j < 16 → m_wr μ j = x_mw j + 1 ∧ m_rd μ j = x_mr j + 1) ∧
  (∀ j, j < 16 → sK n (x_kp σ j) (m_pg μ j) (x_ke σ j) (m_en μ j) (x_kpl σ j) (m_pc μ j) j)
theorem s_xinv {n : Nat} {σ : XS} {μ : MS} (h : sR n σ μ) : x_Inv n σ := fun j hj => by
  rcases h.2.2.2.2.2.2 j hj with q | ⟨P, -, -, -, -, -, -, q⟩
  · exact Or.inl q.1
  · exact Or.inr q
theorem s_minv {n : Nat} {σ : XS} {μ : MS} (h : sR n σ μ) : m_Inv n μ := fun j hj => by
  rcases h.2.2.2.2.2.2 j hj with q | ⟨P, -, -, -, -, -, e, q⟩
  · exact Or.inl q.2
  · exact Or.inr (e ▸ q)
