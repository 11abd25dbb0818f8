theorem s_put {n : Nat} {σ σ' : XS} {μ μ' : MS} {r r' : Int32} {a v : Int32} (hn : n ≤ 2048) (hR : sR n σ μ) (e1 : x_put n σ a v = (r, σ')) (e2 : m_put n μ a v = (r', μ')) : r = r' ∧ sR n σ' μ' := sorry
theorem s_entry {n : Nat} {σ σ' : XS} {μ μ' : MS} {r r' : Int32} {a v : Int32} (hn : n ≤ 2048) (hR : sR n σ μ) (e1 : x_entry n σ a v = (r, σ')) (e2 : m_entry n μ a v = (r', μ')) : r = r' ∧ sR n σ' μ' := sorry
theorem s_region {n : Nat} {σ σ' : XS} {μ μ' : MS} {r r' : Int32} {a b c : Int32} (hn : n ≤ 2048) (hR : sR n σ μ) (e1 : x_region n σ a b c = (r, σ')) (e2 : m_region n μ a b c = (r', μ')) : r = r' ∧ sR n σ' μ' := sorry
theorem s_drop {n : Nat} {σ σ' : XS} {μ μ' : MS} {r r' : Int32} {a : Int32} (hn : n ≤ 2048) (hR : sR n σ μ) (e1 : x_drop n σ a = (r, σ')) (e2 : m_drop n μ a = (r', μ')) : r = r' ∧ sR n σ' μ' := sorry
theorem s_read {n : Nat} {σ σ' : XS} {μ μ' : MS} {r r' : Int64} {a b c : Int32} (hn : n ≤ 2048) (hR : sR n σ μ) (e1 : x_read n σ a b c = (r, σ')) (e2 : m_read n μ a b c = (r', μ')) : r = r' ∧ sR n σ' μ' := sorry
theorem s_write {n : Nat} {σ σ' : XS} {μ μ' : MS} {r r' : Int32} {a b c d : Int32} (hn : n ≤ 2048) (hR : sR n σ μ) (e1 : x_write n σ a b c d = (r, σ')) (e2 : m_write n μ a b c d = (r', μ')) : r = r' ∧ sR n σ' μ' := sorry
theorem s_where {n : Nat} {σ σ' : XS} {μ μ' : MS} {r r' : Int32} {a b c : Int32} (hn : n ≤ 2048) (hR : sR n σ μ) (e1 : x_where n σ a b c = (r, σ')) (e2 : m_where n μ a b c = (r', μ')) : r = r' ∧ sR n σ' μ' := sorry
theorem s_may {n : Nat} {σ σ' : XS} {μ μ' : MS} {r r' : Int32} {a b c : Int32} (hn : n ≤ 2048) (hR : sR n σ μ) (e1 : x_may n σ a b c = (r, σ')) (e2 : m_may n μ a b c = (r', μ')) : r = r' ∧ sR n σ' μ' := sorry
theorem s_map {n : Nat} {σ σ' : XS} {μ μ' : MS} {b : Int32} (hn : n ≤ 2048) (hR : sR n σ μ) (e1 : x_map n σ b = σ') (e2 : m_map n μ b = μ') : sR n σ' μ' := sorry
theorem s_entryOf {n : Nat} {σ : XS} {μ : MS} {a : Int32} (hn : n ≤ 2048) (hR : sR n σ μ) : x_entryOf n σ a = m_entryOf n μ a := sorry
theorem s_kept {n : Nat} {σ : XS} {μ : MS} {a b : Int32} (hn : n ≤ 2048) (hR : sR n σ μ) : x_kept n σ a b = m_kept n μ a b := sorry
theorem s_failed {n : Nat} {σ : XS} {μ : MS} (hn : n ≤ 2048) (hR : sR n σ μ) : x_failed n σ = m_failed n μ := sorry
theorem s_init (v : Int32) : sR (x_n v) x_init (m_ini (x_n v) m_mu0 0) ∧ x_n v ≤ 2048 := sorry
