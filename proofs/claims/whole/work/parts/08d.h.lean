-- the places of an access
theorem s_l2 {n : Nat} {σ : XS} {μ : MS} {a a' ct md b : Int32} (hn : n ≤ 2048) (hc : ∃ K : Nat, K ≤ 4 ∧ ct = nI K) (hR : sR n σ μ) : ∀ (f j : Nat), j ≤ 4 → ∃ r : Int32, x_findPlaces_l2 n a ct md b f (nI j) σ = (r, σ) ∧ m_reach_l2 n a' ct md b f (nI j) μ = (r, μ) ∧ (r = 0 ∨ ¬ (0 : Int32) ≤ r) := by
  intro f
  induction f with
  | zero => intro j _; exact ⟨0, rfl, rfl, Or.inl rfl⟩
  | succ f ih =>
    intro j hj
    by_cases h : ct ≤ nI j
    · exact ⟨0, if_pos h, if_pos h, Or.inl rfl⟩
    · have hlt := x_ltK hc hj rfl (by omega) h
      have ep : x_pl σ (nI j).toNatClampNeg = m_li μ (nI j).toNatClampNeg := by rw [nI_clamp (by omega)]; exact hR.2.2.2.2.1 j hlt
      by_cases hm : x_inMemory n σ (x_pl σ (nI j).toNatClampNeg) 1 = 0
      · exact ⟨-100, (if_neg h).trans (if_pos hm), (if_neg h).trans (if_pos (by rw [← ep, ← s_there (σ := σ) hn]; exact hm)), Or.inr (by decide)⟩
      · obtain ⟨r, t1, t2, t3⟩ := ih (j + 1) (by omega)
        rw [← nI_1] at t1 t2
        exact ⟨r, (if_neg h).trans ((if_neg hm).trans t1), (if_neg h).trans ((if_neg (by rw [← ep, ← s_there (σ := σ) hn]; exact hm)).trans t2), t3⟩
theorem s_pls {n : Nat} {σ : XS} {μ : MS} (hR : sR n σ μ) (k : Nat) (v : Int32) : sR n (x_sPl σ (upd (x_pl σ) k v)) (m_sLi μ (upd (m_li μ) k v)) := by
  refine ⟨hR.1, hR.2.1, hR.2.2.1, hR.2.2.2.1, fun j hj => ?_, hR.2.2.2.2.2⟩
  show upd (x_pl σ) k v j = upd (m_li μ) k v j
  by_cases h : j = k
  · subst h; rw [pk_us, pk_us]
  · rw [pk_un h, pk_un h]; exact hR.2.2.2.2.1 j hj
theorem s_fas {n : Nat} {σ : XS} {μ : MS} (hR : sR n σ μ) (v : Int32) : sR n (x_sFa σ v) (m_sFa μ v) := ⟨hR.1, hR.2.1, hR.2.2.1, rfl, hR.2.2.2.2⟩
def x_fpT (n : Nat) (a ct md b : Int32) (f : Nat) (i at' r : Int32) (t : XS) : Int32 × XS := if (0 : Int32) ≤ r then x_findPlaces_l1 n a ct md b f (i + 1) (x_sPl t (upd (x_pl t) ((i).toNatClampNeg) r)) else kv (x_noteFault n t r at') (fun t' => (r, t'))
def m_reT (n : Nat) (a ct md b : Int32) (f : Nat) (i at' r : Int32) (t : MS) : Int32 × MS := if (0 : Int32) ≤ r then m_reach_l1 n a ct md b f (i + 1) (m_sLi t (upd (m_li t) ((i).toNatClampNeg) r)) else if r = (-100) then (r, t) else (r, (m_sFa t at'))
theorem s_fpT {n : Nat} {a a' ct md b at' r : Int32} {f j : Nat} {σ : XS} {μ : MS} (hR : sR n σ μ) (ih : ∀ (σ : XS) (μ : MS), sR n σ μ → ∃ (r : Int32) (σ' : XS) (μ' : MS), x_findPlaces_l1 n a ct md b f (nI (j + 1)) σ = (r, σ') ∧ m_reach_l1 n a' ct md b f (nI (j + 1)) μ = (r, μ') ∧ sR n σ' μ' ∧ (r = 0 ∨ ¬ (0 : Int32) ≤ r)) : ∃ (s : Int32) (σ' : XS) (μ' : MS), x_fpT n a ct md b f (nI j) at' r σ = (s, σ') ∧ m_reT n a' ct md b f (nI j) at' r μ = (s, μ') ∧ sR n σ' μ' ∧ (s = 0 ∨ ¬ (0 : Int32) ≤ s) := by
  by_cases h : (0 : Int32) ≤ r
  · obtain ⟨s, σ', μ', t1, t2, t3, t4⟩ := ih _ _ (s_pls hR (nI j).toNatClampNeg r)
    rw [← nI_1] at t1 t2
    exact ⟨s, σ', μ', (if_pos h).trans t1, (if_pos h).trans t2, t3, t4⟩
  · by_cases h2 : r = -100
    · have e : x_noteFault n σ r at' = σ := if_pos h2
      exact ⟨r, σ, μ, (if_neg h).trans (kv_eq e), (if_neg h).trans (if_pos h2), hR, Or.inr h⟩
    · have e : x_noteFault n σ r at' = x_sFa σ at' := if_neg h2
      exact ⟨r, _, _, (if_neg h).trans (kv_eq e), (if_neg h).trans (if_neg h2), s_fas hR at', Or.inr h⟩
theorem s_l1 {n : Nat} {a ct md b : Int32} (hn : n ≤ 2048) (hc : ∃ K : Nat, K ≤ 4 ∧ ct = nI K) : ∀ (f j : Nat) (σ : XS) (μ : MS), j ≤ 4 → sR n σ μ → ∃ (r : Int32) (σ' : XS) (μ' : MS), x_findPlaces_l1 n a ct md b f (nI j) σ = (r, σ') ∧ m_reach_l1 n (a &&& 65535) ct md b f (nI j) μ = (r, μ') ∧ sR n σ' μ' ∧ (r = 0 ∨ ¬ (0 : Int32) ≤ r) := by
  intro f
  induction f with
  | zero => intro j σ μ _ hR; exact ⟨0, σ, μ, rfl, rfl, hR, Or.inl rfl⟩
  | succ f ih =>
    intro j σ μ hj hR
    by_cases h : ct ≤ nI j
    · obtain ⟨r, t1, t2, t3⟩ := s_l2 (a := a) (a' := a &&& 65535) (md := md) (b := b) hn hc hR 5 0 (by omega)
      exact ⟨r, σ, μ, (if_pos h).trans t1, (if_pos h).trans t2, hR, t3⟩
    · have hlt := x_ltK hc hj rfl (by omega) h
      obtain ⟨K, hK, eK⟩ := x_mask16 (a + nI j)
      have eK' : ((a &&& 65535) + nI j) &&& 65535 = nI K := by rw [s_wrap]; exact eK
      obtain ⟨q, σ1, μ1, t1, t2, hR1⟩ := s_tr (md := md) (b := b) (kp := 1) hn hK hR
      have X : ∀ {z}, x_fpT n a ct md b f (nI j) ((a + nI j) &&& 65535) q σ1 = z → kb (x_translate n σ ((a + nI j) &&& 65535) md b 1) (fun r t => x_fpT n a ct md b f (nI j) ((a + nI j) &&& 65535) r t) = z := fun k => (kb_eq (by rw [eK]; exact t1)).trans k
      have M : ∀ {z}, m_reT n (a &&& 65535) ct md b f (nI j) (((a &&& 65535) + nI j) &&& 65535) q μ1 = z → kb (m_translate n μ (((a &&& 65535) + nI j) &&& 65535) (md &&& 3) b 1) (fun r t => m_reT n (a &&& 65535) ct md b f (nI j) (((a &&& 65535) + nI j) &&& 65535) r t) = z := fun k => (kb_eq (by rw [eK']; exact t2)).trans k
      obtain ⟨s, σ', μ', u1, u2, u3, u4⟩ := s_fpT (a := a) (a' := a &&& 65535) (ct := ct) (md := md) (b := b) (at' := (a + nI j) &&& 65535) (r := q) (f := f) (j := j) hR1 (fun σ μ hR => ih (j + 1) σ μ (by omega) hR)
      have u2' : m_reT n (a &&& 65535) ct md b f (nI j) (((a &&& 65535) + nI j) &&& 65535) q μ1 = (s, μ') := by rw [s_wrap]; exact u2
      rcases Nat.eq_zero_or_pos j with h0 | h0
      · subst h0
        exact ⟨s, σ', μ', (if_neg h).trans ((if_pos (show nI 0 ≤ 0 by decide)).trans (X u1)), (if_neg h).trans ((if_pos (show nI 0 = 0 by decide)).trans (M u2')), u3, u4⟩
      · have hx : ¬ nI j ≤ 0 := nI_nle h0 (by omega)
        have hm : ¬ nI j = 0 := nI_ne0 h0 (by omega)
        by_cases hp : K % 16 = 0
        · have px : x_placeInPage ((a + nI j) &&& 65535) = 0 := by unfold x_placeInPage; rw [eK, s_a15 hK, hp]; rfl
          have pm : (((a &&& 65535) + nI j) &&& 65535) - (((a &&& 65535) + nI j) &&& 65535) / 16 * 16 = 0 := by rw [eK', s_r16 hK, hp]; rfl
          exact ⟨s, σ', μ', (if_neg h).trans ((if_neg hx).trans ((if_pos px).trans (X u1))), (if_neg h).trans ((if_neg hm).trans ((if_pos pm).trans (M u2'))), u3, u4⟩
        · have px : ¬ x_placeInPage ((a + nI j) &&& 65535) = 0 := by unfold x_placeInPage; rw [eK, s_a15 hK]; exact nI_ne0 (by omega) (by omega)
          have pm : ¬ (((a &&& 65535) + nI j) &&& 65535) - (((a &&& 65535) + nI j) &&& 65535) / 16 * 16 = 0 := by rw [eK', s_r16 hK]; exact nI_ne0 (by omega) (by omega)
          have ep : x_pl σ (nI j - 1).toNatClampNeg = m_li μ (nI j - 1).toNatClampNeg := by
            rw [show (1 : Int32) = nI 1 from rfl, pk_sub (by omega), nI_clamp (by omega)]
            exact hR.2.2.2.2.1 (j - 1) (by omega)
          obtain ⟨s, σ', μ', u1, u2, u3, u4⟩ := ih (j + 1) _ _ (by omega) (s_pls hR (nI j).toNatClampNeg (x_pl σ (nI j - 1).toNatClampNeg + 1))
          rw [← nI_1] at u1 u2
          exact ⟨s, σ', μ', (if_neg h).trans ((if_neg hx).trans ((if_neg px).trans u1)), (if_neg h).trans ((if_neg hm).trans ((if_neg pm).trans (by rw [← ep]; exact u2))), u3, u4⟩
theorem s_fp {n : Nat} {σ : XS} {μ : MS} {a ct md b : Int32} (hn : n ≤ 2048) (hc : ∃ K : Nat, K ≤ 4 ∧ ct = nI K) (hR : sR n σ μ) : ∃ (r : Int32) (σ' : XS) (μ' : MS), x_findPlaces n σ a ct md b = (r, σ') ∧ m_reach n μ (a &&& 65535) ct md b = (r, μ') ∧ sR n σ' μ' ∧ (r = 0 ∨ ¬ (0 : Int32) ≤ r) := s_l1 hn hc 5 0 σ μ (by omega) hR
theorem s_wl {n : Nat} {a ct v md : Int32} (hn : n ≤ 2048) (hc : ∃ K : Nat, K ≤ 4 ∧ ct = nI K) : ∀ (f j : Nat) (σ : XS) (μ : MS), j ≤ 4 → sR n σ μ → (∀ q : Nat, q < 4 → nI q < ct → vp_in (x_pl σ q) n) → ∃ (σ' : XS) (μ' : MS), x_write_l1 n a ct v md f (nI j) σ = (0, σ') ∧ m_write_l1 n a ct v md f (nI j) μ = (0, μ') ∧ sR n σ' μ' := by
  intro f
  induction f with
  | zero => intro j σ μ _ hR _; exact ⟨σ, μ, rfl, rfl, hR⟩
  | succ f ih =>
    intro j σ μ hj hR hq
    by_cases h : ct ≤ nI j
    · exact ⟨σ, μ, if_pos h, if_pos h, hR⟩
    · have hlt := x_ltK hc hj rfl (by omega) h
      have ep : x_pl σ (nI j).toNatClampNeg = m_li μ (nI j).toNatClampNeg := by rw [nI_clamp (by omega)]; exact hR.2.2.2.2.1 j hlt
      have hR2 : sR n (x_sMem σ (upd (x_mem σ) (x_pl σ (nI j).toNatClampNeg).toNatClampNeg (sX v j))) (m_sMem μ (upd (m_mem μ) (m_li μ (nI j).toNatClampNeg).toNatClampNeg (sB v j))) := by
        refine s_memEq hR ?_
        rw [← ep]
        intro i hi
        by_cases h2 : i = (x_pl σ (nI j).toNatClampNeg).toNatClampNeg
        · subst h2; rw [pk_us, pk_us, s_xb v j hlt]
        · rw [pk_un h2, pk_un h2]; exact hR.1 i hi
      obtain ⟨σ', μ', t1, t2, t3⟩ := ih (j + 1) _ _ (by omega) hR2 hq
      rw [← nI_1] at t1 t2
      exact ⟨σ', μ', (if_neg h).trans t1, (if_neg h).trans t2, t3⟩
theorem s_write {n : Nat} {σ σ' : XS} {μ μ' : MS} {r r' : Int32} {a b c d : Int32} (hn : n ≤ 2048) (hR : sR n σ μ) (e1 : x_write n σ a b c d = (r, σ')) (e2 : m_write n μ a b c d = (r', μ')) : r = r' ∧ sR n σ' μ' := by
  by_cases h : x_isCount b = 0
  · exact s_eqs (σ := σ) e1 e2 (if_pos h) (if_pos (c := m_isSize b = 0) h) hR
  · have hc := x_cnt4 h
    obtain ⟨q, σ1, μ1, t1, t2, hR1, h0⟩ := s_fp (a := a) (md := d) (b := 1) hn hc hR
    rcases h0 with rfl | h0
    · have hq := x_fp_in hn (s_xinv hR) h t1 rfl
      obtain ⟨σ2, μ2, w1, w2, hR2⟩ := s_wl (a := a) (v := c) (md := d) hn hc 5 0 σ1 μ1 (by omega) hR1 hq
      exact s_eqs (σ := σ) e1 e2 ((if_neg h).trans ((kb_eq t1).trans ((if_pos rfl).trans w1))) ((if_neg (c := m_isSize b = 0) h).trans ((kb_eq t2).trans ((if_pos (show (0 : Int32) ≤ 0 by decide)).trans w2))) hR2
    · have hz : ¬ q = 0 := fun e => h0 (by rw [e]; decide)
      exact s_eqs (σ := σ) e1 e2 ((if_neg h).trans ((kb_eq t1).trans (if_neg hz))) ((if_neg (c := m_isSize b = 0) h).trans ((kb_eq t2).trans (if_neg h0))) hR1
-- what is read
theorem s_rst {n f : Nat} {a ct md i : Int32} {v : Int64} {τ : XS} (h : ¬ ct ≤ i) : x_read_l1 n a ct md (f + 1) v i τ = x_read_l1 n a ct md f (v ||| (jlshl (((x_byteAt n τ (x_pl τ (i).toNatClampNeg))).toInt64) ((8 : Int32) * i))) (i + 1) τ := if_neg h
theorem s_rst0 {n f : Nat} {a ct md i : Int32} {v : Int64} {τ : XS} (h : ct ≤ i) : x_read_l1 n a ct md (f + 1) v i τ = (v, τ) := if_pos h
theorem s_mst {n f : Nat} {a ct md i : Int32} {v : Int64} {τ : MS} (h : ¬ i < 0) : m_read_l1 n a ct md (f + 1) v i τ = m_read_l1 n a ct md f ((v * 256) + (((m_mem τ ((m_li τ (i).toNatClampNeg)).toNatClampNeg)).toInt64)) (i + (-1)) τ := if_neg h
theorem s_mst0 {n f : Nat} {a ct md i : Int32} {v : Int64} {τ : MS} (h : i < 0) : m_read_l1 n a ct md (f + 1) v i τ = (v, τ) := if_pos h
theorem s_by {n : Nat} {σ : XS} {a : Int32} : ∃ β : Nat, β < 256 ∧ x_byteAt n σ a = nI β := pk_andE (x_mem σ a.toNatClampNeg) (m := 255) 8 (by decide)
theorem s_jl {β : Nat} (k : Nat) (hk : k < 4) : jlshl (lN β) ((8 : Int32) * nI k) = lN (β * 2 ^ (8 * k)) := by
  unfold jlshl
  rw [show (8 : Int32) * nI k = nI (8 * k) from pk_mul 8 k]
  exact wb_shl β (by omega)
theorem s_or0 (x : Int64) : (0 : Int64) ||| x = x := by
  apply Int64.toBitVec_inj.mp
  rw [Int64.toBitVec_or]
  show 0#64 ||| x.toBitVec = x.toBitVec
  rw [BitVec.zero_or]
theorem s_read {n : Nat} {σ σ' : XS} {μ μ' : MS} {r r' : Int64} {a b c : Int32} (hn : n ≤ 2048) (hR : sR n σ μ) (e1 : x_read n σ a b c = (r, σ')) (e2 : m_read n μ a b c = (r', μ')) : r = r' ∧ sR n σ' μ' := by
  have fin : ∀ {q : Int64} {σ1 : XS} {μ1 : MS}, x_read n σ a b c = (q, σ1) → m_read n μ a b c = (q, μ1) → sR n σ1 μ1 → r = r' ∧ sR n σ' μ' := by
    intro q σ1 μ1 t1 t2 hR1
    obtain ⟨rfl, rfl⟩ := x_inj (t1.symm.trans e1)
    obtain ⟨rfl, rfl⟩ := x_inj (t2.symm.trans e2)
    exact ⟨rfl, hR1⟩
  by_cases h : x_isCount b = 0
  · exact fin (if_pos h) (if_pos (c := m_isSize b = 0) h) hR
  · have hc := x_cnt4 h
    obtain ⟨q, σ1, μ1, t1, t2, hR1, h0⟩ := s_fp (a := a) (md := c) (b := 0) hn hc hR
    rcases h0 with rfl | h0
    · have hq := x_fp_in hn (s_xinv hR) h t1 rfl
      have hB : ∀ j : Nat, j < 4 → nI j < b → ∃ β : Nat, β < 256 ∧ (x_byteAt n σ1 (x_pl σ1 (nI j).toNatClampNeg)).toInt64 = lN β ∧ (m_mem μ1 (m_li μ1 (nI j).toNatClampNeg).toNatClampNeg).toInt64 = lN β := by
        intro j hj hb
        obtain ⟨β, hβ, eβ⟩ := s_by (n := n) (σ := σ1) (a := x_pl σ1 (nI j).toNatClampNeg)
        have ep : m_li μ1 (nI j).toNatClampNeg = x_pl σ1 (nI j).toNatClampNeg := by rw [nI_clamp (by omega)]; exact (hR1.2.2.2.2.1 j hj).symm
        have em : m_mem μ1 (x_pl σ1 (nI j).toNatClampNeg).toNatClampNeg = x_byteAt n σ1 (x_pl σ1 (nI j).toNatClampNeg) := s_mem hn hR1 (by rw [nI_clamp (by omega)]; exact hq j hj hb)
        rw [ep, em, eβ, nI_l (by omega)]
        exact ⟨β, hβ, rfl, rfl⟩
      have X : ∀ {z}, x_read_l1 n a b c 5 0 0 σ1 = z → x_read n σ a b c = z := fun k => (if_neg h).trans ((kb_eq t1).trans ((if_pos rfl).trans k))
      have M : ∀ {z}, m_read_l1 n a b c 5 0 (b - 1) μ1 = z → m_read n μ a b c = z := fun k => (if_neg (c := m_isSize b = 0) h).trans ((kb_eq t2).trans ((if_pos (show (0 : Int32) ≤ 0 by decide)).trans k))
      have hb : b = 1 ∨ b = 2 ∨ b = 4 := by
        unfold x_isCount at h
        split at h
        · exact Or.inl (by assumption)
        · split at h
          · exact Or.inr (Or.inl (by assumption))
          · split at h
            · exact Or.inr (Or.inr (by assumption))
            · exact absurd rfl h
      rcases hb with rfl | rfl | rfl
      · obtain ⟨β0, h0, x0, m0⟩ := hB 0 (by decide) (by decide)
        refine fin (q := lN β0) (X ?_) (M ?_) hR1
        · rw [s_rst (i := 0) (by decide), s_rst0 (i := 0 + 1) (by decide), show (0 : Int32) = nI 0 from rfl, x0, s_jl 0 (by decide), s_or0, Nat.mul_zero, Nat.pow_zero, Nat.mul_one]
        · rw [show (1 : Int32) - 1 = nI 0 from rfl, s_mst (i := nI 0) (by decide), s_mst0 (by decide), m0, show (0 : Int64) = lN 0 from rfl, show (256 : Int64) = lN 256 from rfl, lN_mul, lN_add, Nat.zero_mul, Nat.zero_add]
      · obtain ⟨β0, h0, x0, m0⟩ := hB 0 (by decide) (by decide)
        obtain ⟨β1, h1, x1, m1⟩ := hB 1 (by decide) (by decide)
        refine fin (q := lN (β0 + β1 * 256)) (X ?_) (M ?_) hR1
        · rw [s_rst (i := 0) (by decide), s_rst (i := 0 + 1) (by decide), s_rst0 (i := 0 + 1 + 1) (by decide), show (0 : Int32) + 1 = nI 1 from rfl, show (0 : Int32) = nI 0 from rfl, x0, x1, s_jl 0 (by decide), s_jl 1 (by decide), s_or0, Nat.mul_zero, Nat.pow_zero, Nat.mul_one, show 2 ^ (8 * 1) = 256 from rfl, g_or' (k := 8) rfl h0 (by omega)]
        · rw [show (2 : Int32) - 1 = nI 1 from rfl, s_mst (i := nI 1) (by decide), show nI 1 + (-1) = nI 0 from rfl, s_mst (i := nI 0) (by decide), s_mst0 (by decide), m0, m1, show (0 : Int64) = lN 0 from rfl, show (256 : Int64) = lN 256 from rfl, lN_mul, lN_add, lN_mul, lN_add]
          congr 2
          omega
      · obtain ⟨β0, h0, x0, m0⟩ := hB 0 (by decide) (by decide)
        obtain ⟨β1, h1, x1, m1⟩ := hB 1 (by decide) (by decide)
        obtain ⟨β2, h2, x2, m2⟩ := hB 2 (by decide) (by decide)
        obtain ⟨β3, h3, x3, m3⟩ := hB 3 (by decide) (by decide)
        refine fin (q := lN (β0 + β1 * 256 + β2 * 65536 + β3 * 16777216)) (X ?_) (M ?_) hR1
        · rw [s_rst (i := 0) (by decide), s_rst (i := 0 + 1) (by decide), s_rst (i := 0 + 1 + 1) (by decide), s_rst (i := 0 + 1 + 1 + 1) (by decide), s_rst0 (i := 0 + 1 + 1 + 1 + 1) (by decide), show (0 : Int32) + 1 + 1 + 1 = nI 3 from rfl, show (0 : Int32) + 1 + 1 = nI 2 from rfl, show (0 : Int32) + 1 = nI 1 from rfl, show (0 : Int32) = nI 0 from rfl, x0, x1, x2, x3, s_jl 0 (by decide), s_jl 1 (by decide), s_jl 2 (by decide), s_jl 3 (by decide), s_or0, Nat.mul_zero, Nat.pow_zero, Nat.mul_one, show 2 ^ (8 * 1) = 256 from rfl, show 2 ^ (8 * 2) = 65536 from rfl, show 2 ^ (8 * 3) = 16777216 from rfl, g_or' (k := 8) rfl h0 (by omega), g_or' (k := 16) rfl (by omega) (by omega), g_or' (k := 24) rfl (by omega) (by omega)]
        · rw [show (4 : Int32) - 1 = nI 3 from rfl, s_mst (i := nI 3) (by decide), show nI 3 + (-1) = nI 2 from rfl, s_mst (i := nI 2) (by decide), show nI 2 + (-1) = nI 1 from rfl, s_mst (i := nI 1) (by decide), show nI 1 + (-1) = nI 0 from rfl, s_mst (i := nI 0) (by decide), s_mst0 (by decide), m0, m1, m2, m3, show (0 : Int64) = lN 0 from rfl, show (256 : Int64) = lN 256 from rfl, lN_mul, lN_add, lN_mul, lN_add, lN_mul, lN_add, lN_mul, lN_add]
          congr 2
          omega
    · have hz : ¬ q = 0 := fun e => h0 (by rw [e]; decide)
      exact fin ((if_neg h).trans ((kb_eq t1).trans (if_neg hz))) ((if_neg (c := m_isSize b = 0) h).trans ((kb_eq t2).trans (if_neg h0))) hR1
