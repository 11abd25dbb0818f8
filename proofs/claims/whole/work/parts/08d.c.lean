def lookEnd (n : Nat) (t : MS) (V : Int32) : Int32 × MS := if (m_areFour n (m_sAd t V) (m_ad (m_sAd t V))) = 0 then ((-100), (m_sAd t V)) else (0, (m_sLk (m_sAd t V) (m_four n (m_sAd t V) (m_ad (m_sAd t V)))))
def xEnd (n : Nat) (r : Int32) (t : XS) : Int32 × XS := if (0 : Int32) ≤ r then (if (x_inMemory n t r 4) = 0 then ((-100), t) else (r, t)) else (r, t)
def sL (n : Nat) (σ : XS) (μ : MS) (b r r' : Int32) : Prop := (r' = 0 ∧ 0 ≤ r ∧ m_ad μ = r ∧ m_lk μ = x_entryAt n σ r ∧ x_in4 n r) ∨ (r' = -100 ∧ r = -100) ∨ (r' = -2 ∧ r = x_access 1 b) ∨ (r' = -4 ∧ r = x_access 3 b) ∨ (r' = -13 ∧ r = x_missing 2 b)
theorem s_tail {n : Nat} {σ : XS} {t : MS} {b V V' : Int32} (hn : n ≤ 2048) (hR : sR n σ t) (eV : V = V') (h0 : 0 ≤ V) : ∃ (r r' : Int32) (μ' : MS), xEnd n V σ = (r, σ) ∧ lookEnd n t V' = (r', μ') ∧ sR n σ μ' ∧ sL n σ μ' b r r' := by
  subst eV
  by_cases h : x_inMemory n σ V 4 = 0
  · exact ⟨_, _, _, (if_pos h0).trans (if_pos h), if_pos h, s_ad V hR, Or.inr (Or.inl ⟨rfl, rfl⟩)⟩
  · have h4 := x_inM4 hn h
    exact ⟨_, _, _, (if_pos h0).trans (if_neg h), if_neg h, s_lk _ (s_ad V hR), Or.inl ⟨rfl, h0, rfl, s_ent hn (s_ad V hR) h4, h4⟩⟩
theorem s_mis2 (b : Int32) : ¬ (0 : Int32) ≤ x_missing 2 b := by unfold x_missing; split <;> decide
theorem s_in3 {n : Nat} {σ : XS} {K : Nat} (hK : K < 65536) (c : ¬ x_inside n σ (x_regionOf (nI K)) (x_pageOf (nI K)) = 0) : K < 49152 := by
  have h := x_inside_lt (x_region_in (nI K)) c
  rw [(s_reg hK).1] at h
  have h2 := (vp_in_iff.mp h).2
  rw [nI_toInt (by omega)] at h2
  omega
theorem s_sum {n : Nat} {σ : XS} {μ : MS} {K : Nat} (hK : K < 65536) (hR : sR n σ μ) {j : Nat} (hj : j < 3) : x_bas σ j + (4 : Int32) * x_pageOf (nI K) = m_bas μ j + (4 : Int32) * m_pageOf (nI K) ∧ ∃ q : Nat, q < 70000 ∧ x_bas σ j + (4 : Int32) * x_pageOf (nI K) = nI q := by
  obtain ⟨h1, -, ⟨B, hB, eB⟩, -⟩ := s_bl hR hj
  rw [h1, (s_page hK).1, (s_page hK).2]
  refine ⟨rfl, B + 4 * (K / 16 % 1024), by omega, ?_⟩
  rw [eB, show (4 : Int32) = nI 4 from rfl, pk_mul, nI_add]
theorem s_lookW {n : Nat} {σ : XS} {μ : MS} {W : Nat} {b kp : Int32} (hn : n ≤ 2048) (hW : W < 65536) (hR : sR n σ μ) : ∃ (r : Int32) (σ' : XS) (r' : Int32) (μ' : MS), kb (x_placeThroughS n σ (nI W) b kp) (fun r t => xEnd n r t) = (r, σ') ∧ m_lookW n μ kp (nI W) = (r', μ') ∧ sR n σ' μ' ∧ sL n σ' μ' b r r' := by
  by_cases c1 : x_regionOf (nI W) = 2
  · have c1' : m_regionOf (nI W) = 2 := by rw [(s_reg hW).2, ← (s_reg hW).1]; exact c1
    have ei : x_inside n σ 2 (x_pageOf (nI W)) = m_isInside n μ (nI W) := by rw [← s_ins hW hR, c1]
    by_cases c2 : x_inside n σ 2 (x_pageOf (nI W)) = 0
    · exact ⟨_, _, _, _, (kb_eq ((if_pos c1).trans (if_pos c2))).trans (if_neg (x_acc3 b)), (if_pos c1').trans (if_pos (by rw [← ei]; exact c2)), hR, Or.inr (Or.inr (Or.inr (Or.inl ⟨rfl, rfl⟩)))⟩
    · have c2' : ¬ m_isInside n μ (nI W) = 0 := by rw [← ei]; exact c2
      have hW3 : W < 49152 := by
        have := (s_reg hW).1
        rw [c1] at this
        have h2 := (nI_eq (a := 2) (by decide) (by omega)).mp this
        omega
      by_cases c3 : x_counts n σ (x_slotOf (nI W)) (nI W) = 0
      · have c3' : m_isKept n μ (nI W) = 0 := by rw [← s_cnt hW hR]; exact c3
        obtain ⟨eo, q, hq, eq⟩ := s_sum hW hR (j := (2 : Int32).toNatClampNeg) (by decide)
        by_cases c4 : x_inMemory n σ (x_bas σ (2 : Int32).toNatClampNeg + (4 : Int32) * x_pageOf (nI W)) 4 = 0
        · exact ⟨_, _, _, _, (kb_eq ((if_pos c1).trans ((if_neg c2).trans ((if_pos c3).trans (if_pos c4))))).trans (if_neg (by decide)), (if_pos c1').trans ((if_neg c2').trans ((if_pos c3').trans ((kv_eq eo.symm).trans (if_pos c4)))), hR, Or.inr (Or.inl ⟨rfl, rfl⟩)⟩
        · have h4 := x_inM4 hn c4
          have eE := s_ent hn hR h4
          by_cases c5 : x_isValid (x_entryAt n σ (x_bas σ (2 : Int32).toNatClampNeg + (4 : Int32) * x_pageOf (nI W))) = 0
          · have c5' := (s_valid _).mp c5
            exact ⟨_, _, _, _, (kb_eq ((if_pos c1).trans ((if_neg c2).trans ((if_pos c3).trans ((if_neg c4).trans (if_pos c5)))))).trans (if_neg (s_mis2 b)), (if_pos c1').trans ((if_neg c2').trans ((if_pos c3').trans ((kv_eq eo.symm).trans ((if_neg c4).trans ((kv_eq eE).trans (if_neg c5')))))), hR, Or.inr (Or.inr (Or.inr (Or.inr ⟨rfl, rfl⟩)))⟩
          · have c5' : x_entryAt n σ (x_bas σ (2 : Int32).toNatClampNeg + (4 : Int32) * x_pageOf (nI W)) < 0 := by
              by_cases z : x_entryAt n σ (x_bas σ (2 : Int32).toNatClampNeg + (4 : Int32) * x_pageOf (nI W)) < 0
              · exact z
              · exact absurd ((s_valid _).mpr z) c5
            obtain ⟨ep, z, hz, ez⟩ := s_phys hW (x_entryAt n σ (x_bas σ (2 : Int32).toNatClampNeg + (4 : Int32) * x_pageOf (nI W)))
            by_cases c6 : kp = 0
            · obtain ⟨r, r', μ', t1, t2, t3, t4⟩ := s_tail (b := b) hn hR ep (by rw [ez]; exact s_ge0 hz)
              exact ⟨r, σ, r', μ', (kb_eq ((if_pos c1).trans ((if_neg c2).trans ((if_pos c3).trans ((if_neg c4).trans ((if_neg c5).trans (if_pos c6))))))).trans t1, (if_pos c1').trans ((if_neg c2').trans ((if_pos c3').trans ((kv_eq eo.symm).trans ((if_neg c4).trans ((kv_eq eE).trans ((if_pos c5').trans ((if_pos c6).trans t2))))))), t3, t4⟩
            · have hR2 := s_keep (v := x_entryAt n σ (x_bas σ (2 : Int32).toNatClampNeg + (4 : Int32) * x_pageOf (nI W))) hW3 hR h4
              obtain ⟨r, r', μ', t1, t2, t3, t4⟩ := s_tail (b := b) hn hR2 ep (by rw [ez]; exact s_ge0 hz)
              exact ⟨r, _, r', μ', (kb_eq ((if_pos c1).trans ((if_neg c2).trans ((if_pos c3).trans ((if_neg c4).trans ((if_neg c5).trans (if_neg c6))))))).trans t1, (if_pos c1').trans ((if_neg c2').trans ((if_pos c3').trans ((kv_eq eo.symm).trans ((if_neg c4).trans ((kv_eq eE).trans ((if_pos c5').trans ((if_neg c6).trans ((kv_eq rfl).trans t2)))))))), t3, t4⟩
      · have c3' : ¬ m_isKept n μ (nI W) = 0 := by rw [← s_cnt hW hR]; exact c3
        obtain ⟨-, e1, -, -⟩ := s_cntd hW hR c3
        obtain ⟨ep, z, hz, ez⟩ := s_phys hW (x_ke σ (x_slotOf (nI W)).toNatClampNeg)
        obtain ⟨r, r', μ', t1, t2, t3, t4⟩ := s_tail (b := b) hn hR ep (by rw [ez]; exact s_ge0 hz)
        exact ⟨r, σ, r', μ', (kb_eq ((if_pos c1).trans ((if_neg c2).trans (if_neg c3)))).trans t1, (if_pos c1').trans ((if_neg c2').trans ((if_neg c3').trans ((kv_eq e1.symm).trans t2))), t3, t4⟩
  · have c1' : ¬ m_regionOf (nI W) = 2 := by rw [(s_reg hW).2, ← (s_reg hW).1]; exact c1
    exact ⟨_, _, _, _, (kb_eq (if_neg c1)).trans (if_neg (x_acc3 b)), if_neg c1', hR, Or.inr (Or.inr (Or.inr (Or.inl ⟨rfl, rfl⟩)))⟩
theorem s_look {n : Nat} {σ : XS} {μ : MS} {K : Nat} {b kp : Int32} (hn : n ≤ 2048) (hK : K < 65536) (hR : sR n σ μ) (hc : x_counts n σ (x_slotOf (nI K)) (nI K) = 0) : ∃ (r : Int32) (σ' : XS) (r' : Int32) (μ' : MS), x_placeOfEntry n σ (nI K) b kp = (r, σ') ∧ m_look n μ (nI K) kp = (r', μ') ∧ sR n σ' μ' ∧ sL n σ' μ' b r r' ∧ (r' = 0 → K < 49152) := by
  have hk : m_isKept n μ (nI K) = 0 := by rw [← s_cnt hK hR]; exact hc
  by_cases ci : x_inside n σ (x_regionOf (nI K)) (x_pageOf (nI K)) = 0
  · exact ⟨_, _, _, _, if_pos ci, (if_pos hk).trans (if_pos (by rw [← s_ins hK hR]; exact ci)), hR, Or.inr (Or.inr (Or.inl ⟨rfl, rfl⟩)), fun e => absurd e (by decide)⟩
  · have ci' : ¬ m_isInside n μ (nI K) = 0 := by rw [← s_ins hK hR]; exact ci
    have h3 := s_in3 hK ci
    by_cases c2 : x_regionOf (nI K) = 2
    · have c2' : m_regionOf (nI K) = 2 := by rw [(s_reg hK).2, ← (s_reg hK).1]; exact c2
      obtain ⟨eo, q, hq, eq⟩ := s_sum hK hR (j := (2 : Int32).toNatClampNeg) (by decide)
      have ex : x_bas σ (x_regionOf (nI K)).toNatClampNeg + (4 : Int32) * x_pageOf (nI K) = x_bas σ (2 : Int32).toNatClampNeg + (4 : Int32) * x_pageOf (nI K) := by rw [c2]
      obtain ⟨r, r', μ', t1, t2, t3, t4⟩ := s_tail (b := b) hn hR (ex.trans eo) (by rw [ex, eq]; exact nI_pos' (by omega))
      exact ⟨r, σ, r', μ', (if_neg ci).trans ((if_pos c2).trans t1), (if_pos hk).trans ((if_neg ci').trans ((if_pos c2').trans t2)), t3, t4, fun _ => h3⟩
    · have c2' : ¬ m_regionOf (nI K) = 2 := by rw [(s_reg hK).2, ← (s_reg hK).1]; exact c2
      have hreg : (x_regionOf (nI K)).toNatClampNeg < 3 ∧ (m_regionOf (nI K)).toNatClampNeg = (x_regionOf (nI K)).toNatClampNeg := by
        rw [(s_reg hK).1, (s_reg hK).2, nI_clamp (by omega)]
        exact ⟨by omega, rfl⟩
      obtain ⟨eo, -⟩ := s_sum hK hR hreg.1
      obtain ⟨W, hW, eW⟩ := x_mask16 (x_bas σ (x_regionOf (nI K)).toNatClampNeg + (4 : Int32) * x_pageOf (nI K))
      have eW' : (m_bas μ (m_regionOf (nI K)).toNatClampNeg + (4 : Int32) * m_pageOf (nI K)) &&& 65535 = nI W := by rw [hreg.2, ← eo]; exact eW
      obtain ⟨r, σ', r', μ', t1, t2, t3, t4⟩ := s_lookW (b := b) (kp := kp) hn hW hR
      refine ⟨r, σ', r', μ', (if_neg ci).trans ((if_neg c2).trans ?_), (if_pos hk).trans ((if_neg ci').trans ((if_neg c2').trans ((kv_eq eW').trans t2))), t3, t4, fun _ => h3⟩
      rw [eW]
      exact t1
