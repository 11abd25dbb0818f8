theorem s_entryOf {n : Nat} {σ : XS} {μ : MS} {a : Int32} (hn : n ≤ 2048) (hR : sR n σ μ) : x_entryOf n σ a = m_entryOf n μ a := by
  by_cases h : x_inMemory n σ a 4 = 0
  · exact (if_pos h).trans (if_pos (c := m_areFour n μ a = 0) h).symm
  · refine (if_neg h).trans (Eq.trans ?_ (if_neg (c := m_areFour n μ a = 0) h).symm)
    rw [s_ent hn hR (x_inM4 hn h)]
theorem s_failed {n : Nat} {σ : XS} {μ : MS} (hn : n ≤ 2048) (hR : sR n σ μ) : x_failed n σ = m_failed n μ := hR.2.2.2.1
theorem s_kept {n : Nat} {σ : XS} {μ : MS} {a b : Int32} (hn : n ≤ 2048) (hR : sR n σ μ) : x_kept n σ a b = m_kept n μ a b := by
  unfold x_kept m_kept
  by_cases h1 : a < 0
  · rw [if_pos h1, if_pos h1]
  · rw [if_neg h1, if_neg h1]
    by_cases h2 : (16 : Int32) ≤ a
    · rw [if_pos h2, if_pos h2]
    · rw [if_neg h2, if_neg h2]
      by_cases h3 : b < 0
      · rw [if_pos h3, if_pos h3]
      · rw [if_neg h3, if_neg h3]
        by_cases h4 : b ≤ 2
        · rw [if_pos h4, if_pos h4]
          obtain ⟨j, hj, rfl⟩ := vp_in_of (x_i16 h1 h2) (by decide)
          rw [nI_clamp (by omega)]
          rcases hR.2.2.2.2.2.2 j hj with ⟨q1, q2⟩ | ⟨P, hP, -, q1, q2, q3, -⟩
          · rw [if_pos q1, if_pos (show m_pg μ j < 0 by rw [q2]; decide)]
          · rw [if_neg (show ¬ x_kp σ j = -1 by rw [q1]; exact x_nm1 (by omega)), if_neg (show ¬ m_pg μ j < 0 by rw [q2]; exact nI_pos (by omega)), q1, q2, q3, show (16 : Int32) = nI 16 from rfl, pk_mul, Nat.mul_comm P 16]
        · rw [if_neg h4, if_neg h4]
theorem s_where {n : Nat} {σ σ' : XS} {μ μ' : MS} {r r' : Int32} {a b c : Int32} (hn : n ≤ 2048) (hR : sR n σ μ) (e1 : x_where n σ a b c = (r, σ')) (e2 : m_where n μ a b c = (r', μ')) : r = r' ∧ sR n σ' μ' := by
  obtain ⟨K, hK, eK⟩ := x_mask16 a
  obtain ⟨q, σ1, μ1, t1, t2, hR1⟩ := s_tr (md := b) (b := c) (kp := 0) hn hK hR
  rw [← eK] at t1 t2
  have k1 := (kb_eq t1).symm.trans e1
  have k2 := (kb_eq t2).symm.trans e2
  by_cases h : (0 : Int32) ≤ q
  · have h' : ¬ q < 0 := Int32.not_lt.mpr h
    by_cases hm : x_inMemory n σ1 q 1 = 0
    · have hm' : m_isThere n μ1 q = 0 := by rw [← s_there (σ := σ1) hn]; exact hm
      obtain ⟨a1, a2⟩ := x_inj (((if_pos h).trans (if_pos hm)).symm.trans k1)
      obtain ⟨b1, b2⟩ := x_inj (((if_neg h').trans (if_pos hm')).symm.trans k2)
      exact ⟨a1.symm.trans b1, a2 ▸ b2 ▸ hR1⟩
    · have hm' : ¬ m_isThere n μ1 q = 0 := by rw [← s_there (σ := σ1) hn]; exact hm
      obtain ⟨a1, a2⟩ := x_inj (((if_pos h).trans (if_neg hm)).symm.trans k1)
      obtain ⟨b1, b2⟩ := x_inj (((if_neg h').trans (if_neg hm')).symm.trans k2)
      exact ⟨a1.symm.trans b1, a2 ▸ b2 ▸ hR1⟩
  · have h' : q < 0 := Int32.not_le.mp h
    obtain ⟨a1, a2⟩ := x_inj ((if_neg h).symm.trans k1)
    obtain ⟨b1, b2⟩ := x_inj ((if_pos h').symm.trans k2)
    exact ⟨a1.symm.trans b1, a2 ▸ b2 ▸ hR1⟩
theorem s_eqs {n : Nat} {σ σ1 σ' : XS} {μ1 μ' : MS} {q r r' : Int32} {X : Int32 × XS} {M : Int32 × MS} (e1 : X = (r, σ')) (e2 : M = (r', μ')) (t1 : X = (q, σ1)) (t2 : M = (q, μ1)) (hR : sR n σ1 μ1) : r = r' ∧ sR n σ' μ' := by
  obtain ⟨rfl, rfl⟩ := x_inj (t1.symm.trans e1)
  obtain ⟨rfl, rfl⟩ := x_inj (t2.symm.trans e2)
  exact ⟨rfl, hR⟩
theorem s_isA (b : Int32) : x_isAccess (-100) = 0 ∧ ¬ x_isAccess (x_access 1 b) = 0 ∧ ¬ x_isAccess (x_access 3 b) = 0 ∧ x_isAccess (x_missing 2 b) = 0 := by
  by_cases hb : b = 0
  · rw [(s_acc b hb).1, (s_acc b hb).2.1, (s_acc b hb).2.2]; decide
  · rw [(s_acc4 b hb).1, (s_acc4 b hb).2.1, (s_acc4 b hb).2.2]; decide
def x_mayT (n : Nat) (md b r : Int32) (t : XS) : Int32 × XS := if (0 : Int32) ≤ r then (if (x_gives (x_entryAt n t r) md b) = 0 then (0, t) else (1, t)) else if (x_isAccess r) = 0 then (r, t) else (0, t)
def m_mayT (n : Nat) (md b r : Int32) (t : MS) : Int32 × MS := if r = (-100) then ((-100), t) else if r = (-13) then (if b = 0 then (r, t) else ((r - 4), t)) else if r = 0 then (if (m_isRight n t (md &&& 3) b) = 0 then (0, t) else (1, t)) else (0, t)
theorem s_may {n : Nat} {σ σ' : XS} {μ μ' : MS} {r r' : Int32} {a b c : Int32} (hn : n ≤ 2048) (hR : sR n σ μ) (e1 : x_may n σ a b c = (r, σ')) (e2 : m_may n μ a b c = (r', μ')) : r = r' ∧ sR n σ' μ' := by
  obtain ⟨K, hK, eK⟩ := x_mask16 a
  by_cases c0 : x_mp σ = 0
  · exact s_eqs (σ := σ) e1 e2 (if_pos c0) (if_pos (by rw [← hR.2.2.1]; exact c0)) hR
  · have c0' : ¬ m_on μ = 0 := by rw [← hR.2.2.1]; exact c0
    by_cases cc : x_counts n σ (x_slotOf (nI K)) (nI K) = 0
    · obtain ⟨q, σ1, q', μ1, t1, t2, hR1, hL, -⟩ := s_look (b := c) (kp := 0) hn hK hR cc
      rw [← eK] at t1 t2 cc
      have X : x_may n σ a b c = x_mayT n b c q σ1 := (if_neg c0).trans ((if_pos cc).trans (kb_eq t1))
      have M : m_may n μ a b c = m_mayT n b c q' μ1 := (if_neg c0').trans (kb_eq t2)
      obtain ⟨i0, i1, i2, i3⟩ := s_isA c
      rcases hL with ⟨rfl, h0, ead, elk, h4⟩ | ⟨rfl, rfl⟩ | ⟨rfl, rfl⟩ | ⟨rfl, rfl⟩ | ⟨rfl, rfl⟩
      · have eg : x_gives (x_entryAt n σ1 q) b c = m_isRight n μ1 (b &&& 3) c := by rw [← elk]; exact s_giv (σ := σ1) hR1.2.2.2.2.2.1
        have M0 : m_mayT n b c 0 μ1 = if (m_isRight n μ1 (b &&& 3) c) = 0 then (0, μ1) else (1, μ1) := (if_neg (show ¬ (0 : Int32) = -100 by decide)).trans ((if_neg (show ¬ (0 : Int32) = -13 by decide)).trans (if_pos rfl))
        by_cases g : x_gives (x_entryAt n σ1 q) b c = 0
        · exact s_eqs (σ := σ) e1 e2 (X.trans ((if_pos h0).trans (if_pos g))) (M.trans (M0.trans (if_pos (by rw [← eg]; exact g)))) hR1
        · exact s_eqs (σ := σ) e1 e2 (X.trans ((if_pos h0).trans (if_neg g))) (M.trans (M0.trans (if_neg (by rw [← eg]; exact g)))) hR1
      · exact s_eqs (σ := σ) e1 e2 (X.trans ((if_neg (show ¬ (0 : Int32) ≤ -100 by decide)).trans (if_pos i0))) (M.trans (if_pos rfl)) hR1
      · exact s_eqs (σ := σ) e1 e2 (X.trans ((if_neg (x_acc1 c)).trans (if_neg i1))) (M.trans ((if_neg (show ¬ (-2 : Int32) = -100 by decide)).trans ((if_neg (show ¬ (-2 : Int32) = -13 by decide)).trans (if_neg (show ¬ (-2 : Int32) = 0 by decide))))) hR1
      · exact s_eqs (σ := σ) e1 e2 (X.trans ((if_neg (x_acc3 c)).trans (if_neg i2))) (M.trans ((if_neg (show ¬ (-4 : Int32) = -100 by decide)).trans ((if_neg (show ¬ (-4 : Int32) = -13 by decide)).trans (if_neg (show ¬ (-4 : Int32) = 0 by decide))))) hR1
      · have M1 : m_mayT n b c (-13) μ1 = if c = 0 then ((-13), μ1) else (((-13 : Int32) - 4), μ1) := (if_neg (show ¬ (-13 : Int32) = -100 by decide)).trans (if_pos rfl)
        have X1 : x_mayT n b c (x_missing 2 c) σ1 = (x_missing 2 c, σ1) := (if_neg (s_mis2 c)).trans (if_pos i3)
        by_cases hb : c = 0
        · have em : x_missing 2 c = -13 := by rw [(s_acc c hb).2.2]; decide
          rw [em] at X1 X
          exact s_eqs (σ := σ) e1 e2 (X.trans X1) (M.trans (M1.trans (if_pos hb))) hR1
        · have em : x_missing 2 c = (-13 : Int32) - 4 := (s_acc4 c hb).2.2
          rw [em] at X1 X
          exact s_eqs (σ := σ) e1 e2 (X.trans X1) (M.trans (M1.trans (if_neg hb))) hR1
    · obtain ⟨h3, k1, k2, h4⟩ := s_cntd hK hR cc
      have hk : ¬ m_isKept n μ (nI K) = 0 := by rw [← s_cnt hK hR]; exact cc
      have t2 : m_look n μ (nI K) 0 = (0, m_sAd (m_sLk μ (m_en μ (m_slot (nI K)).toNatClampNeg)) (m_pc (m_sLk μ (m_en μ (m_slot (nI K)).toNatClampNeg)) (m_slot (nI K)).toNatClampNeg)) := if_neg hk
      have hR1 : sR n σ (m_sAd (m_sLk μ (m_en μ (m_slot (nI K)).toNatClampNeg)) (m_pc (m_sLk μ (m_en μ (m_slot (nI K)).toNatClampNeg)) (m_slot (nI K)).toNatClampNeg)) := s_ad _ (s_lk _ hR)
      have l1 : m_lk (m_sAd (m_sLk μ (m_en μ (m_slot (nI K)).toNatClampNeg)) (m_pc (m_sLk μ (m_en μ (m_slot (nI K)).toNatClampNeg)) (m_slot (nI K)).toNatClampNeg)) = x_ke σ (x_slotOf (nI K)).toNatClampNeg := k1.symm
      generalize m_sAd (m_sLk μ (m_en μ (m_slot (nI K)).toNatClampNeg)) (m_pc (m_sLk μ (m_en μ (m_slot (nI K)).toNatClampNeg)) (m_slot (nI K)).toNatClampNeg) = u at t2 hR1 l1
      have eg : x_gives (x_ke σ (x_slotOf (nI K)).toNatClampNeg) b c = m_isRight n u (b &&& 3) c := by rw [← l1]; exact s_giv (σ := σ) hR1.2.2.2.2.2.1
      rw [← eK] at t2 cc eg
      have M : m_may n μ a b c = m_mayT n b c 0 u := (if_neg c0').trans (kb_eq t2)
      have M0 : m_mayT n b c 0 u = if (m_isRight n u (b &&& 3) c) = 0 then (0, u) else (1, u) := (if_neg (show ¬ (0 : Int32) = -100 by decide)).trans ((if_neg (show ¬ (0 : Int32) = -13 by decide)).trans (if_pos rfl))
      by_cases g : x_gives (x_ke σ (x_slotOf (a &&& 65535)).toNatClampNeg) b c = 0
      · exact s_eqs (σ := σ) e1 e2 ((if_neg c0).trans ((if_neg cc).trans (if_pos g))) (M.trans (M0.trans (if_pos (by rw [← eg]; exact g)))) hR1
      · exact s_eqs (σ := σ) e1 e2 ((if_neg c0).trans ((if_neg cc).trans (if_neg g))) (M.trans (M0.trans (if_neg (by rw [← eg]; exact g)))) hR1
theorem s_put {n : Nat} {σ σ' : XS} {μ μ' : MS} {r r' : Int32} {a v : Int32} (hn : n ≤ 2048) (hR : sR n σ μ) (e1 : x_put n σ a v = (r, σ')) (e2 : m_put n μ a v = (r', μ')) : r = r' ∧ sR n σ' μ' := by
  by_cases h : x_inMemory n σ a 1 = 0
  · exact s_eqs (σ := σ) e1 e2 (if_pos h) (if_pos (by rw [← s_there (σ := σ) hn]; exact h)) hR
  · refine s_eqs (σ := σ) e1 e2 (if_neg h) (if_neg (by rw [← s_there (σ := σ) hn]; exact h)) (s_memEq hR ?_)
    intro j hj
    by_cases hj2 : j = a.toNatClampNeg
    · subst hj2; rw [pk_us, pk_us, pk_vb, bp_b]
    · rw [pk_un hj2, pk_un hj2]; exact hR.1 j hj
theorem s_entry {n : Nat} {σ σ' : XS} {μ μ' : MS} {r r' : Int32} {a v : Int32} (hn : n ≤ 2048) (hR : sR n σ μ) (e1 : x_entry n σ a v = (r, σ')) (e2 : m_entry n μ a v = (r', μ')) : r = r' ∧ sR n σ' μ' := by
  by_cases h : x_inMemory n σ a 4 = 0
  · exact s_eqs (σ := σ) e1 e2 (if_pos h) (if_pos (c := m_areFour n μ a = 0) h) hR
  · obtain ⟨q, rfl, hq⟩ := s_in4N hn (x_inM4 hn h)
    exact s_eqs (σ := σ) e1 e2 ((if_neg h).trans (s_pe (by omega))) ((if_neg (c := m_areFour n μ (nI q) = 0) h).trans (kv_eq (s_pf (by omega)))) (s_memEq hR (s_f4eq hR.1 (s_xb v 0 (by decide)).symm (s_xb v 1 (by decide)).symm (s_xb v 2 (by decide)).symm (s_xb v 3 (by decide)).symm))
theorem s_off {n : Nat} {σ : XS} {μ : MS} (hR : sR n σ μ) (k : Nat) : sR n (x_sKp σ (upd (x_kp σ) k (-1))) (m_sPg μ (upd (m_pg μ) k (-1))) := by
  refine ⟨hR.1, hR.2.1, hR.2.2.1, hR.2.2.2.1, hR.2.2.2.2.1, hR.2.2.2.2.2.1, fun j hj => ?_⟩
  show sK n (upd (x_kp σ) k (-1) j) (upd (m_pg μ) k (-1) j) (x_ke σ j) (m_en μ j) (x_kpl σ j) (m_pc μ j) j
  by_cases h : j = k
  · subst h; rw [pk_us, pk_us]; exact Or.inl ⟨rfl, rfl⟩
  · rw [pk_un h, pk_un h]; exact hR.2.2.2.2.2.2 j hj
theorem s_forl {n : Nat} {fr k : Int32} : ∀ (f : Nat) (i : Int32) (σ : XS) (μ : MS), sR n σ μ → sR n (x_forget_l1 n k f i σ) (m_forget_l1 n fr k f i μ) := by
  intro f
  induction f with
  | zero => intro i σ μ h; exact h
  | succ f ih =>
    intro i σ μ h
    by_cases c : k ≤ i
    · rw [show x_forget_l1 n k (f + 1) i σ = σ from if_pos c, show m_forget_l1 n fr k (f + 1) i μ = μ from if_pos c]; exact h
    · rw [show x_forget_l1 n k (f + 1) i σ = _ from if_neg c, show m_forget_l1 n fr k (f + 1) i μ = _ from if_neg c]
      exact ih _ _ _ (s_off h _)
theorem s_forget {n : Nat} {σ : XS} {μ : MS} (k : Int32) (hR : sR n σ μ) : sR n (x_forget n σ k) (m_forget n μ 0 k) := s_forl 17 0 σ μ hR
theorem s_map {n : Nat} {σ σ' : XS} {μ μ' : MS} {b : Int32} (hn : n ≤ 2048) (hR : sR n σ μ) (e1 : x_map n σ b = σ') (e2 : m_map n μ b = μ') : sR n σ' μ' := by
  have h : sR n (x_sMp σ b) (m_sOn μ b) := ⟨hR.1, hR.2.1, rfl, hR.2.2.2⟩
  have k1 : x_map n σ b = x_forget n (x_sMp σ b) 16 := kv_eq (k := fun t => t) rfl
  have k2 : m_map n μ b = m_forget n (m_sOn μ b) 0 16 := kv_eq (k := fun t => t) rfl
  rw [← e1, ← e2, k1, k2]
  exact s_forget 16 h
theorem s_regs {n : Nat} {σ : XS} {μ : MS} {j : Nat} (hR : sR n σ μ) (x y : Int32) : sR n (x_sLen (x_sBas σ (upd (x_bas σ) j (x &&& 65535))) (upd (x_len (x_sBas σ (upd (x_bas σ) j (x &&& 65535)))) j (y &&& 65535))) (m_sLen (m_sBas μ (upd (m_bas μ) j (x &&& 65535))) (upd (m_len (m_sBas μ (upd (m_bas μ) j (x &&& 65535)))) j (y &&& 65535))) := by
  refine ⟨hR.1, fun k hk => ?_, hR.2.2⟩
  show upd (m_bas μ) j _ k = upd (x_bas σ) j _ k ∧ upd (m_len μ) j _ k = upd (x_len σ) j _ k ∧ (∃ K : Nat, K < 65536 ∧ upd (x_bas σ) j _ k = nI K) ∧ (∃ K : Nat, K < 65536 ∧ upd (x_len σ) j _ k = nI K)
  by_cases h : k = j
  · subst h; rw [pk_us, pk_us, pk_us, pk_us]; exact ⟨rfl, rfl, x_mask16 x, x_mask16 y⟩
  · rw [pk_un h, pk_un h, pk_un h, pk_un h]; exact hR.2.1 k hk
theorem s_region {n : Nat} {σ σ' : XS} {μ μ' : MS} {r r' : Int32} {a b c : Int32} (hn : n ≤ 2048) (hR : sR n σ μ) (e1 : x_region n σ a b c = (r, σ')) (e2 : m_region n μ a b c = (r', μ')) : r = r' ∧ sR n σ' μ' := by
  by_cases h1 : a < 0
  · exact s_eqs (σ := σ) e1 e2 (if_pos h1) (if_pos h1) hR
  · by_cases h2 : a < 3
    · by_cases h3 : a = 2
      · exact s_eqs (σ := σ) e1 e2 ((if_neg h1).trans ((if_pos h2).trans ((if_pos h3).trans (kv_eq rfl)))) ((if_neg h1).trans ((if_pos h2).trans ((if_pos h3).trans (kv_eq rfl)))) (s_forget 16 (s_regs hR b c))
      · exact s_eqs (σ := σ) e1 e2 ((if_neg h1).trans ((if_pos h2).trans ((if_neg h3).trans (kv_eq rfl)))) ((if_neg h1).trans ((if_pos h2).trans ((if_neg h3).trans (kv_eq rfl)))) (s_forget 8 (s_regs hR b c))
    · exact s_eqs (σ := σ) e1 e2 ((if_neg h1).trans (if_neg h2)) ((if_neg h1).trans (if_neg h2)) hR
theorem s_drop {n : Nat} {σ σ' : XS} {μ μ' : MS} {r r' : Int32} {a : Int32} (hn : n ≤ 2048) (hR : sR n σ μ) (e1 : x_drop n σ a = (r, σ')) (e2 : m_drop n μ a = (r', μ')) : r = r' ∧ sR n σ' μ' := by
  obtain ⟨K, hK, eK⟩ := x_mask16 a
  have ec := s_cnt hK hR
  by_cases h : x_counts n σ (x_slotOf (nI K)) (nI K) = 0
  · have h' : m_isKept n μ (nI K) = 0 := by rw [← ec]; exact h
    rw [← eK] at h h'
    exact s_eqs (σ := σ) e1 e2 (if_pos h) (if_pos h') hR
  · have h' : ¬ m_isKept n μ (nI K) = 0 := by rw [← ec]; exact h
    have h3 := (s_cntd hK hR h).1
    have es : (x_slotOf (nI K)).toNatClampNeg = (m_slot (nI K)).toNatClampNeg := by rw [s_xsl hK, s_msl h3]
    rw [← eK] at h h' es
    refine s_eqs (σ := σ) e1 e2 (if_neg h) (if_neg h') ?_
    rw [es]
    exact s_off hR _
