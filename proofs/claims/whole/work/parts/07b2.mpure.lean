theorem m_look_in {n : Nat} {σ τ : MS} {a kp r : Int32} (hn : n ≤ 2048) (hI : m_Inv n σ) (ha : ∃ K : Nat, K < 65536 ∧ a = nI K) (e : m_look n σ a kp = (r, τ)) (c : 0 ≤ r) : x_in4 n (m_ad τ) := by
  rcases it_c e with ⟨c_1, e⟩ | ⟨c_1, e⟩
  · rcases it_c e with ⟨c_2, e⟩ | ⟨c_2, e⟩
    · obtain ⟨rfl, rfl⟩ := x_inj e
      exact absurd c (by decide)
    · rcases it_c e with ⟨c_3, e⟩ | ⟨c_3, e⟩
      · rcases it_c e with ⟨c_4, e⟩ | ⟨c_4, e⟩
        · obtain ⟨rfl, rfl⟩ := x_inj e
          exact absurd c (by decide)
        · obtain ⟨rfl, rfl⟩ := x_inj e
          exact m_afn hn c_4
      · obtain ⟨wh_4, w_5, e⟩ := kv_c e
        rcases it_c e with ⟨c_6, e⟩ | ⟨c_6, e⟩
        · rcases it_c e with ⟨c_7, e⟩ | ⟨c_7, e⟩
          · obtain ⟨rfl, rfl⟩ := x_inj e
            exact absurd c (by decide)
          · rcases it_c e with ⟨c_8, e⟩ | ⟨c_8, e⟩
            · obtain ⟨oo_8, w_9, e⟩ := kv_c e
              rcases it_c e with ⟨c_10, e⟩ | ⟨c_10, e⟩
              · obtain ⟨rfl, rfl⟩ := x_inj e
                exact absurd c (by decide)
              · obtain ⟨tb_10, w_11, e⟩ := kv_c e
                rcases it_c e with ⟨c_12, e⟩ | ⟨c_12, e⟩
                · rcases it_c e with ⟨c_13, e⟩ | ⟨c_13, e⟩
                  · rcases it_c e with ⟨c_14, e⟩ | ⟨c_14, e⟩
                    · obtain ⟨rfl, rfl⟩ := x_inj e
                      exact absurd c (by decide)
                    · obtain ⟨rfl, rfl⟩ := x_inj e
                      exact m_afn hn c_14
                  · obtain ⟨t_14, w_15, e⟩ := kv_c e
                    rcases it_c e with ⟨c_16, e⟩ | ⟨c_16, e⟩
                    · obtain ⟨rfl, rfl⟩ := x_inj e
                      exact absurd c (by decide)
                    · obtain ⟨rfl, rfl⟩ := x_inj e
                      exact m_afn hn c_16
                · obtain ⟨rfl, rfl⟩ := x_inj e
                  exact absurd c (by decide)
            · obtain ⟨tb_17, w_17, e⟩ := kv_c e
              rcases it_c e with ⟨c_18, e⟩ | ⟨c_18, e⟩
              · obtain ⟨rfl, rfl⟩ := x_inj e
                exact absurd c (by decide)
              · obtain ⟨rfl, rfl⟩ := x_inj e
                exact m_afn hn c_18
        · obtain ⟨rfl, rfl⟩ := x_inj e
          exact absurd c (by decide)
  · obtain ⟨rfl, rfl⟩ := x_inj e
    exact m_kept_at hI ha c_1
theorem m_look_inv {n : Nat} {σ τ : MS} {a kp r : Int32} (hn : n ≤ 2048) (hI : m_Inv n σ) (e : m_look n σ a kp = (r, τ)) : m_Inv n τ := by
  rcases it_c e with ⟨c_1, e⟩ | ⟨c_1, e⟩
  · rcases it_c e with ⟨c_2, e⟩ | ⟨c_2, e⟩
    · obtain ⟨-, rfl⟩ := x_inj e
      exact hI
    · rcases it_c e with ⟨c_3, e⟩ | ⟨c_3, e⟩
      · rcases it_c e with ⟨c_4, e⟩ | ⟨c_4, e⟩
        · obtain ⟨-, rfl⟩ := x_inj e
          exact hI
        · obtain ⟨-, rfl⟩ := x_inj e
          exact hI
      · obtain ⟨wh_4, w_5, e⟩ := kv_c e
        rcases it_c e with ⟨c_6, e⟩ | ⟨c_6, e⟩
        · rcases it_c e with ⟨c_7, e⟩ | ⟨c_7, e⟩
          · obtain ⟨-, rfl⟩ := x_inj e
            exact hI
          · rcases it_c e with ⟨c_8, e⟩ | ⟨c_8, e⟩
            · obtain ⟨oo_8, w_9, e⟩ := kv_c e
              rcases it_c e with ⟨c_10, e⟩ | ⟨c_10, e⟩
              · obtain ⟨-, rfl⟩ := x_inj e
                exact hI
              · obtain ⟨tb_10, w_11, e⟩ := kv_c e
                rcases it_c e with ⟨c_12, e⟩ | ⟨c_12, e⟩
                · rcases it_c e with ⟨c_13, e⟩ | ⟨c_13, e⟩
                  · rcases it_c e with ⟨c_14, e⟩ | ⟨c_14, e⟩
                    · obtain ⟨-, rfl⟩ := x_inj e
                      exact hI
                    · obtain ⟨-, rfl⟩ := x_inj e
                      exact hI
                  · obtain ⟨t_14, w_15, e⟩ := kv_c e
                    rcases it_c e with ⟨c_16, e⟩ | ⟨c_16, e⟩
                    · obtain ⟨-, rfl⟩ := x_inj e
                      exact m_keeps_inv (τ := t_14) hI (m_afn hn c_10) w_15
                    · obtain ⟨-, rfl⟩ := x_inj e
                      exact m_keeps_inv (τ := t_14) hI (m_afn hn c_10) w_15
                · obtain ⟨-, rfl⟩ := x_inj e
                  exact hI
            · obtain ⟨tb_17, w_17, e⟩ := kv_c e
              rcases it_c e with ⟨c_18, e⟩ | ⟨c_18, e⟩
              · obtain ⟨-, rfl⟩ := x_inj e
                exact hI
              · obtain ⟨-, rfl⟩ := x_inj e
                exact hI
        · obtain ⟨-, rfl⟩ := x_inj e
          exact hI
  · obtain ⟨-, rfl⟩ := x_inj e
    exact hI
theorem m_tr_inv {n : Nat} {σ τ : MS} {a md b kp r : Int32} (hn : n ≤ 2048) (hI : m_Inv n σ) (ha : ∃ K : Nat, K < 65536 ∧ a = nI K) (e : m_translate n σ a md b kp = (r, τ)) : m_Inv n τ := by
  rcases it_c e with ⟨c_1, e⟩ | ⟨c_1, e⟩
  · obtain ⟨-, rfl⟩ := x_inj e
    exact hI
  · rcases it_c e with ⟨c_2, e⟩ | ⟨c_2, e⟩
    · obtain ⟨r_5, t_3, w_3, e⟩ := kb_c e
      rcases it_c e with ⟨c_4, e⟩ | ⟨c_4, e⟩
      · rcases it_c e with ⟨c_5, e⟩ | ⟨c_5, e⟩
        · obtain ⟨-, rfl⟩ := x_inj e
          have hI2 := m_look_inv hn hI w_3
          exact hI2
        · rcases it_c e with ⟨c_6, e⟩ | ⟨c_6, e⟩
          · rcases it_c e with ⟨c_7, e⟩ | ⟨c_7, e⟩
            · obtain ⟨-, rfl⟩ := x_inj e
              have hI2 := m_look_inv hn hI w_3
              exact hI2
            · obtain ⟨t_13, w_8, e⟩ := kv_c e
              obtain ⟨-, rfl⟩ := x_inj e
              have hI2 := m_look_inv hn hI w_3
              have h4 := m_look_in hn hI ha w_3 c_4
              exact m_keeps_inv hI2 h4 w_8
          · obtain ⟨-, rfl⟩ := x_inj e
            have hI2 := m_look_inv hn hI w_3
            exact hI2
      · rcases it_c e with ⟨c_9, e⟩ | ⟨c_9, e⟩
        · obtain ⟨-, rfl⟩ := x_inj e
          have hI2 := m_look_inv hn hI w_3
          exact hI2
        · obtain ⟨-, rfl⟩ := x_inj e
          have hI2 := m_look_inv hn hI w_3
          exact hI2
    · obtain ⟨r_18, t_16, w_10, e⟩ := kb_c e
      rcases it_c e with ⟨c_11, e⟩ | ⟨c_11, e⟩
      · rcases it_c e with ⟨c_12, e⟩ | ⟨c_12, e⟩
        · obtain ⟨-, rfl⟩ := x_inj e
          have hI2 := m_look_inv hn hI w_10
          exact hI2
        · rcases it_c e with ⟨c_13, e⟩ | ⟨c_13, e⟩
          · rcases it_c e with ⟨c_14, e⟩ | ⟨c_14, e⟩
            · obtain ⟨-, rfl⟩ := x_inj e
              have hI2 := m_look_inv hn hI w_10
              exact hI2
            · rcases it_c e with ⟨c_15, e⟩ | ⟨c_15, e⟩
              · obtain ⟨t_29, w_16, e⟩ := kv_c e
                obtain ⟨t_32, w_17, e⟩ := kv_c e
                obtain ⟨-, rfl⟩ := x_inj e
                have hI2 := m_look_inv hn hI w_10
                have h4 := m_look_in hn hI ha w_10 c_11
                have hI3 := m_putFour_inv (σ := m_sLk t_16 (m_lk t_16 ||| 67108864)) hI2 w_16
                refine m_keeps_inv hI3 ?_ w_17
                have h5 : m_ad t_29 = m_ad t_16 := by rw [← w_16]; exact (m_putFour_ad 5 0 _).1
                rw [h5]; exact h4
              · obtain ⟨t_27, w_18, e⟩ := kv_c e
                obtain ⟨-, rfl⟩ := x_inj e
                have hI2 := m_look_inv hn hI w_10
                have h4 := m_look_in hn hI ha w_10 c_11
                exact m_keeps_inv hI2 h4 w_18
          · obtain ⟨-, rfl⟩ := x_inj e
            have hI2 := m_look_inv hn hI w_10
            exact hI2
      · rcases it_c e with ⟨c_19, e⟩ | ⟨c_19, e⟩
        · obtain ⟨-, rfl⟩ := x_inj e
          have hI2 := m_look_inv hn hI w_10
          exact hI2
        · obtain ⟨-, rfl⟩ := x_inj e
          have hI2 := m_look_inv hn hI w_10
          exact hI2
