def x_trT (n : Nat) (σ : XS) (a md b kp e q : Int32) : Int32 × XS := if (x_gives e md b) = 0 then ((x_access 0 b), σ) else if (x_isValid e) = 0 then ((x_missing 0 b), σ) else if kp = 0 then ((x_physical e a), σ) else kv (x_keepEntry n σ (x_slotOf a) a e q) (fun t => if b = 0 then ((x_physical e a), t) else kv (x_markWritten n t (x_slotOf a)) (fun t' => ((x_physical e a), t')))
def m_trT0 (n : Nat) (t : MS) (a md b kp : Int32) : Int32 × MS := if (m_isRight n t md b) = 0 then ((((-1) : Int32) - 0), t) else if (m_lk t) < 0 then (if kp = 0 then ((((16 : Int32) * ((m_lk t) &&& 4095)) + (a - a / 16 * 16)), t) else kv (m_keeps n t a (m_lk t) (m_ad t)) (fun t' => ((((16 : Int32) * ((m_lk t') &&& 4095)) + (a - a / 16 * 16)), t'))) else ((((-11) : Int32) - 0), t)
def m_trT1 (n : Nat) (t : MS) (a md b kp : Int32) : Int32 × MS := if (m_isRight n t md b) = 0 then ((((-1) : Int32) - 4), t) else if (m_lk t) < 0 then (if kp = 0 then ((((16 : Int32) * ((m_lk t) &&& 4095)) + (a - a / 16 * 16)), t) else if (((m_lk t) >>> (26 &&& 31)) &&& 1) = 0 then kv (m_putFour n (m_sLk t ((m_lk t) ||| 67108864)) (m_ad (m_sLk t ((m_lk t) ||| 67108864))) ((m_four n (m_sLk t ((m_lk t) ||| 67108864)) (m_ad (m_sLk t ((m_lk t) ||| 67108864)))) ||| 67108864)) (fun t2 => kv (m_keeps n t2 a (m_lk t2) (m_ad t2)) (fun t3 => ((((16 : Int32) * ((m_lk t3) &&& 4095)) + (a - a / 16 * 16)), t3))) else kv (m_keeps n t a (m_lk t) (m_ad t)) (fun t' => ((((16 : Int32) * ((m_lk t') &&& 4095)) + (a - a / 16 * 16)), t'))) else ((((-11) : Int32) - 4), t)
theorem s_or95 (e : Int32) : (e ||| 67108864) &&& 4095 = e &&& 4095 := by
  apply b_ext
  intro i hi
  have h95 : ∀ i, i < 32 → bt 4095 i = decide (i < 12) := by decide +kernel
  rw [b_and, b_or, b_and, s_b26 i hi, h95 i hi]
  by_cases h : i < 12
  · simp [show ¬ i = 26 by omega]
  · simp [h]
theorem s_trT0 {n : Nat} {σ : XS} {t : MS} {K : Nat} {md b kp : Int32} (hb : b = 0) (hK : K < 49152) (hR : sR n σ t) (hq : x_in4 n (m_ad t)) : ∃ (r : Int32) (σ' : XS) (μ' : MS), x_trT n σ (nI K) md b kp (m_lk t) (m_ad t) = (r, σ') ∧ m_trT0 n t (nI K) (md &&& 3) b kp = (r, μ') ∧ sR n σ' μ' := by
  have eg : x_gives (m_lk t) md b = m_isRight n t (md &&& 3) b := s_giv (σ := σ) hR.2.2.2.2.2.1
  by_cases c1 : x_gives (m_lk t) md b = 0
  · exact ⟨_, _, _, if_pos c1, (if_pos (by rw [← eg]; exact c1)).trans (by rw [show x_access 0 b = (-1 : Int32) - 0 from by unfold x_access; rw [if_pos hb]; decide]), hR⟩
  · have c1' : ¬ m_isRight n t (md &&& 3) b = 0 := by rw [← eg]; exact c1
    by_cases c2 : x_isValid (m_lk t) = 0
    · exact ⟨_, _, _, (if_neg c1).trans (if_pos c2), (if_neg c1').trans ((if_neg ((s_valid _).mp c2)).trans (by rw [show x_missing 0 b = (-11 : Int32) - 0 from by unfold x_missing; rw [if_pos hb]; decide])), hR⟩
    · have c2' : m_lk t < 0 := by
        by_cases z : m_lk t < 0
        · exact z
        · exact absurd ((s_valid _).mpr z) c2
      obtain ⟨ep, -⟩ := s_phys (K := K) (by omega) (m_lk t)
      by_cases c3 : kp = 0
      · exact ⟨_, _, _, (if_neg c1).trans ((if_neg c2).trans (if_pos c3)), (if_neg c1').trans ((if_pos c2').trans ((if_pos c3).trans (by rw [ep]))), hR⟩
      · exact ⟨_, _, _, (if_neg c1).trans ((if_neg c2).trans ((if_neg c3).trans (if_pos hb))), (if_neg c1').trans ((if_pos c2').trans ((if_neg c3).trans ((kv_eq rfl).trans (by rw [ep]; rfl)))), s_keep hK hR hq⟩
theorem s_lkm {t : MS} {v : Int32} {f : Nat → Int32} : m_lk (m_sMem (m_sLk t v) f) = v := rfl
theorem s_adm {t : MS} {v : Int32} {f : Nat → Int32} : m_ad (m_sMem (m_sLk t v) f) = m_ad t := rfl
theorem s_adl {t : MS} {v : Int32} : m_ad (m_sLk t v) = m_ad t := rfl
theorem s_kend {n : Nat} {u : MS} {a v q : Int32} (l1 : m_lk u = v) (l2 : m_ad u = q) : kv u (fun t2 => kv (m_keeps n t2 a (m_lk t2) (m_ad t2)) (fun t3 => ((((16 : Int32) * ((m_lk t3) &&& 4095)) + (a - a / 16 * 16)), t3))) = ((((16 : Int32) * (v &&& 4095)) + (a - a / 16 * 16)), m_keeps n u a v q) := by
  subst l1; subst l2; rfl
theorem s_trT1 {n : Nat} {σ : XS} {t : MS} {K : Nat} {md b kp : Int32} (hn : n ≤ 2048) (hb : ¬ b = 0) (hK : K < 49152) (hR : sR n σ t) (hq : x_in4 n (m_ad t)) : ∃ (r : Int32) (σ' : XS) (μ' : MS), x_trT n σ (nI K) md b kp (m_lk t) (m_ad t) = (r, σ') ∧ m_trT1 n t (nI K) (md &&& 3) b kp = (r, μ') ∧ sR n σ' μ' := by
  have eg : x_gives (m_lk t) md b = m_isRight n t (md &&& 3) b := s_giv (σ := σ) hR.2.2.2.2.2.1
  by_cases c1 : x_gives (m_lk t) md b = 0
  · exact ⟨_, _, _, if_pos c1, (if_pos (by rw [← eg]; exact c1)).trans (by rw [show x_access 0 b = (-1 : Int32) - 4 from by unfold x_access; rw [if_neg hb]; decide]), hR⟩
  · have c1' : ¬ m_isRight n t (md &&& 3) b = 0 := by rw [← eg]; exact c1
    by_cases c2 : x_isValid (m_lk t) = 0
    · exact ⟨_, _, _, (if_neg c1).trans (if_pos c2), (if_neg c1').trans ((if_neg ((s_valid _).mp c2)).trans (by rw [show x_missing 0 b = (-11 : Int32) - 4 from by unfold x_missing; rw [if_neg hb]; decide])), hR⟩
    · have c2' : m_lk t < 0 := by
        by_cases z : m_lk t < 0
        · exact z
        · exact absurd ((s_valid _).mpr z) c2
      obtain ⟨ep, -⟩ := s_phys (K := K) (by omega) (m_lk t)
      by_cases c3 : kp = 0
      · exact ⟨_, _, _, (if_neg c1).trans ((if_neg c2).trans (if_pos c3)), (if_neg c1').trans ((if_pos c2').trans ((if_pos c3).trans (by rw [ep]))), hR⟩
      · by_cases c4 : ((m_lk t >>> (26 &&& 31)) &&& 1) = 0
        · have c4' := (s_wr (m_lk t)).mp c4
          obtain ⟨q, eq, hq4⟩ := s_in4N hn hq
          have hR1 : sR n σ (m_sLk t (m_lk t ||| 67108864)) := s_lk _ hR
          have hR2 := s_setW hn hq4 hR1
          have eP := s_pf (n := n) (μ := m_sLk t (m_lk t ||| 67108864)) (q := q) (v := m_four n (m_sLk t (m_lk t ||| 67108864)) (nI q) ||| 67108864) (by omega)
          have hR3 := s_keep (v := m_lk t ||| 67108864) (q := m_ad t) hK hR2 hq
          refine ⟨_, _, m_keeps n (m_putFour n (m_sLk t (m_lk t ||| 67108864)) (nI q) (m_four n (m_sLk t (m_lk t ||| 67108864)) (nI q) ||| 67108864)) (nI K) (m_lk t ||| 67108864) (m_ad t), (if_neg c1).trans ((if_neg c2).trans ((if_neg c3).trans ((if_neg hb).trans ((kv_eq (s_mw c4')).trans rfl)))), (if_neg c1').trans ((if_pos c2').trans ((if_neg c3).trans ((if_pos c4).trans ?_))), ?_⟩
          · rw [s_adl, eq]
            have l1 : m_lk (m_putFour n (m_sLk t (m_lk t ||| 67108864)) (nI q) (m_four n (m_sLk t (m_lk t ||| 67108864)) (nI q) ||| 67108864)) = m_lk t ||| 67108864 := by rw [eP]; exact s_lkm
            have l2 : m_ad (m_putFour n (m_sLk t (m_lk t ||| 67108864)) (nI q) (m_four n (m_sLk t (m_lk t ||| 67108864)) (nI q) ||| 67108864)) = nI q := by rw [eP]; exact s_adm.trans eq
            rw [s_kend l1 l2, s_or95, ← ep]
          · have e3 : (m_ad t + 3).toNatClampNeg = q + 3 := by rw [eq, show (3 : Int32) = nI 3 from rfl, nI_add, nI_clamp (by omega)]
            rw [e3]
            exact hR3
        · have c4' : ¬ (m_lk t &&& 67108864) = 0 := fun z => c4 ((s_wr (m_lk t)).mpr z)
          exact ⟨_, _, _, (if_neg c1).trans ((if_neg c2).trans ((if_neg c3).trans ((if_neg hb).trans ((kv_eq (s_mw1 c4')).trans rfl)))), (if_neg c1').trans ((if_pos c2').trans ((if_neg c3).trans ((if_neg c4).trans ((kv_eq rfl).trans (by rw [ep]; rfl))))), s_keep hK hR hq⟩
theorem s_acc (b : Int32) (hb : b = 0) : x_access 1 b = (-2 : Int32) - 0 ∧ x_access 3 b = (-4 : Int32) - 0 ∧ x_missing 2 b = (-13 : Int32) - 0 := by
  unfold x_access x_missing; rw [if_pos hb, if_pos hb, if_pos hb]; decide
theorem s_acc4 (b : Int32) (hb : ¬ b = 0) : x_access 1 b = (-2 : Int32) - 4 ∧ x_access 3 b = (-4 : Int32) - 4 ∧ x_missing 2 b = (-13 : Int32) - 4 := by
  unfold x_access x_missing; rw [if_neg hb, if_neg hb, if_neg hb]; decide
theorem s_tr {n : Nat} {σ : XS} {μ : MS} {K : Nat} {md b kp : Int32} (hn : n ≤ 2048) (hK : K < 65536) (hR : sR n σ μ) : ∃ (r : Int32) (σ' : XS) (μ' : MS), x_translate n σ (nI K) md b kp = (r, σ') ∧ m_translate n μ (nI K) (md &&& 3) b kp = (r, μ') ∧ sR n σ' μ' := by
  by_cases c0 : x_mp σ = 0
  · exact ⟨_, _, _, if_pos c0, if_pos (by rw [← hR.2.2.1]; exact c0), hR⟩
  · have c0' : ¬ m_on μ = 0 := by rw [← hR.2.2.1]; exact c0
    by_cases cc : x_counts n σ (x_slotOf (nI K)) (nI K) = 0
    · obtain ⟨r, σ1, r', μ1, e1, e2, hR1, hL, h3⟩ := s_look (b := b) (kp := kp) hn hK hR cc
      rcases hL with ⟨rfl, h0, ead, elk, h4⟩ | hL
      · subst ead
        by_cases hb : b = 0
        · obtain ⟨s, σ', μ', t1, t2, t3⟩ := s_trT0 (md := md) (kp := kp) hb (h3 rfl) hR1 h4
          rw [elk] at t1
          exact ⟨s, σ', μ', (if_neg c0).trans ((if_pos cc).trans ((kb_eq e1).trans ((if_pos h0).trans t1))), (if_neg c0').trans ((if_pos hb).trans ((kb_eq e2).trans ((if_pos (by decide)).trans t2))), t3⟩
        · obtain ⟨s, σ', μ', t1, t2, t3⟩ := s_trT1 (md := md) (kp := kp) hn hb (h3 rfl) hR1 h4
          rw [elk] at t1
          exact ⟨s, σ', μ', (if_neg c0).trans ((if_pos cc).trans ((kb_eq e1).trans ((if_pos h0).trans t1))), (if_neg c0').trans ((if_neg hb).trans ((kb_eq e2).trans ((if_pos (by decide)).trans t2))), t3⟩
      · have hneg : ¬ (0 : Int32) ≤ r ∧ ¬ (0 : Int32) ≤ r' := by
          rcases hL with ⟨rfl, rfl⟩ | ⟨rfl, rfl⟩ | ⟨rfl, rfl⟩ | ⟨rfl, rfl⟩
          · exact ⟨by decide, by decide⟩
          · exact ⟨x_acc1 b, by decide⟩
          · exact ⟨x_acc3 b, by decide⟩
          · exact ⟨s_mis2 b, by decide⟩
        by_cases hb : b = 0
        · refine ⟨r, σ1, μ1, (if_neg c0).trans ((if_pos cc).trans ((kb_eq e1).trans (if_neg hneg.1))), (if_neg c0').trans ((if_pos hb).trans ((kb_eq e2).trans ((if_neg hneg.2).trans ?_))), hR1⟩
          obtain ⟨a1, a2, a3⟩ := s_acc b hb
          rcases hL with ⟨rfl, rfl⟩ | ⟨rfl, rfl⟩ | ⟨rfl, rfl⟩ | ⟨rfl, rfl⟩
          · exact if_pos rfl
          · rw [a1]; exact if_neg (by decide)
          · rw [a2]; exact if_neg (by decide)
          · rw [a3]; exact if_neg (by decide)
        · refine ⟨r, σ1, μ1, (if_neg c0).trans ((if_pos cc).trans ((kb_eq e1).trans (if_neg hneg.1))), (if_neg c0').trans ((if_neg hb).trans ((kb_eq e2).trans ((if_neg hneg.2).trans ?_))), hR1⟩
          obtain ⟨a1, a2, a3⟩ := s_acc4 b hb
          rcases hL with ⟨rfl, rfl⟩ | ⟨rfl, rfl⟩ | ⟨rfl, rfl⟩ | ⟨rfl, rfl⟩
          · exact if_pos rfl
          · rw [a1]; exact if_neg (by decide)
          · rw [a2]; exact if_neg (by decide)
          · rw [a3]; exact if_neg (by decide)
    · obtain ⟨h3, k1, k2, h4⟩ := s_cntd hK hR cc
      have hk : ¬ m_isKept n μ (nI K) = 0 := by rw [← s_cnt hK hR]; exact cc
      have e2 : m_look n μ (nI K) kp = (0, m_sAd (m_sLk μ (m_en μ (m_slot (nI K)).toNatClampNeg)) (m_pc (m_sLk μ (m_en μ (m_slot (nI K)).toNatClampNeg)) (m_slot (nI K)).toNatClampNeg)) := if_neg hk
      have hR1 : sR n σ (m_sAd (m_sLk μ (m_en μ (m_slot (nI K)).toNatClampNeg)) (m_pc (m_sLk μ (m_en μ (m_slot (nI K)).toNatClampNeg)) (m_slot (nI K)).toNatClampNeg)) := s_ad _ (s_lk _ hR)
      have l1 : m_lk (m_sAd (m_sLk μ (m_en μ (m_slot (nI K)).toNatClampNeg)) (m_pc (m_sLk μ (m_en μ (m_slot (nI K)).toNatClampNeg)) (m_slot (nI K)).toNatClampNeg)) = x_ke σ (x_slotOf (nI K)).toNatClampNeg := k1.symm
      have l2 : m_ad (m_sAd (m_sLk μ (m_en μ (m_slot (nI K)).toNatClampNeg)) (m_pc (m_sLk μ (m_en μ (m_slot (nI K)).toNatClampNeg)) (m_slot (nI K)).toNatClampNeg)) = x_kpl σ (x_slotOf (nI K)).toNatClampNeg := k2.symm
      generalize m_sAd (m_sLk μ (m_en μ (m_slot (nI K)).toNatClampNeg)) (m_pc (m_sLk μ (m_en μ (m_slot (nI K)).toNatClampNeg)) (m_slot (nI K)).toNatClampNeg) = u at e2 hR1 l1 l2
      have h4' : x_in4 n (m_ad u) := by rw [l2]; exact h4
      have h0 : (0 : Int32) ≤ x_kpl σ (x_slotOf (nI K)).toNatClampNeg := by
        obtain ⟨q, eq, hq⟩ := s_in4N hn h4
        rw [eq]; exact nI_pos' (by omega)
      by_cases hb : b = 0
      · obtain ⟨s, σ', μ', t1, t2, t3⟩ := s_trT0 (md := md) (kp := kp) hb h3 hR1 h4'
        rw [l1, l2] at t1
        exact ⟨s, σ', μ', (if_neg c0).trans ((if_neg cc).trans ((if_pos h0).trans t1)), (if_neg c0').trans ((if_pos hb).trans ((kb_eq e2).trans ((if_pos (by decide)).trans t2))), t3⟩
      · obtain ⟨s, σ', μ', t1, t2, t3⟩ := s_trT1 (md := md) (kp := kp) hn hb h3 hR1 h4'
        rw [l1, l2] at t1
        exact ⟨s, σ', μ', (if_neg c0).trans ((if_neg cc).trans ((if_pos h0).trans t1)), (if_neg c0').trans ((if_neg hb).trans ((kb_eq e2).trans ((if_pos (by decide)).trans t2))), t3⟩
