theorem m_region_in (a : Int32) : vp_in (m_regionOf a) 4 := pk_andIn (a >>> (14 &&& 31)) (m := 3) 2 (by decide) (by decide)
theorem m_code_in (v : Int32) : vp_in ((v >>> (27 &&& 31)) &&& 15) 16 := pk_andIn (v >>> (27 &&& 31)) (m := 15) 4 (by decide) (by decide)
theorem m_page_nI (a : Int32) : ∃ j : Nat, j < 1024 ∧ m_pageOf a = nI j := pk_andE (a >>> (4 &&& 31)) (m := 1023) 10 (by decide)
theorem m_slot_in (a : Int32) : vp_in (m_slot a) 16 := by
  obtain ⟨j, hj, e⟩ := m_page_nI a
  have h8 : nI j - nI j / 8 * 8 = nI (j % 8) := pk_rem (a := j) (d := 8) (by omega) (by decide) (by decide)
  unfold m_slot
  rw [e, h8]
  split
  · rw [show (8 : Int32) = nI 8 from rfl, nI_add]; exact vp_in_nI (by omega) (by omega)
  · rw [Int32.zero_add]; exact vp_in_nI (by omega) (by omega)
theorem m_r3 {r : Int32} (hk : vp_in r 4) (c : ¬ r = 3) : vp_in r 3 := by
  obtain ⟨j, hj, rfl⟩ := vp_in_of hk (by decide)
  refine vp_in_nI ?_ (by decide)
  rcases (show j < 3 ∨ j = 3 by omega) with q | q
  · exact q
  · subst q; exact absurd rfl c
theorem m_in_r {n : Nat} {σ : MS} {a : Int32} (c : ¬ m_isInside n σ a = 0) : vp_in (m_regionOf a) 3 := by
  unfold m_isInside at c
  split at c
  · rename_i h; rw [h]; exact vp_in_nI (n := 1) (by decide) (by decide)
  · split at c
    · exact absurd rfl c
    · rename_i h; exact m_r3 (m_region_in a) h
theorem m_thn {n : Nat} {σ : MS} {a : Int32} (hn : n ≤ 2048) (h : ¬ m_isThere n σ a = 0) : vp_in a n := by
  unfold m_isThere at h
  split at h
  · exact absurd rfl h
  · rename_i h1
    split at h
    · exact absurd rfl h
    · rename_i h2
      obtain ⟨j, hj, rfl⟩ := nI_of h1
      refine vp_in_nI ?_ (by omega)
      rcases Nat.lt_or_ge j n with q | q
      · exact q
      · exact absurd (nI_le q hj) h2
theorem m_up {n : Nat} {a : Int32} (hn : n ≤ 2048) (h : vp_in a n) : vp_in a 2048 := by
  obtain ⟨j, hj, rfl⟩ := vp_in_of h (by omega)
  exact vp_in_nI (by omega) (by omega)
theorem m_th {n : Nat} {σ : MS} {a : Int32} (hn : n ≤ 2048) (h : ¬ m_isThere n σ a = 0) : vp_in a 2048 := m_up hn (m_thn hn h)
theorem m_in48 {n : Nat} {a : Int32} (hn : n ≤ 2048) (h : x_in4 n a) : x_in4 2048 a := ⟨m_up hn h.1, m_up hn h.2.1, m_up hn h.2.2.1, m_up hn h.2.2.2⟩
theorem m_afn {n : Nat} {σ : MS} {a : Int32} (hn : n ≤ 2048) (h : ¬ m_areFour n σ a = 0) : x_in4 n a := by
  unfold m_areFour at h
  split at h
  · exact absurd rfl h
  · rename_i h1
    split at h
    · exact absurd rfl h
    · rename_i h2
      obtain ⟨j, hj, rfl⟩ := nI_of h1
      refine x_in4_of hn ?_
      rw [show (4 : Int32) = nI 4 from rfl, Int32.lt_iff_toInt_lt, pk_sub_toInt (by omega) (by omega), nI_toInt hj] at h2
      omega
theorem m_af {n : Nat} {σ : MS} {a : Int32} (hn : n ≤ 2048) (h : ¬ m_areFour n σ a = 0) : x_in4 2048 a := m_in48 hn (m_afn hn h)
def m_Inv (n : Nat) (σ : MS) : Prop := ∀ j, j < 16 → m_pg σ j = -1 ∨ x_in4 n (m_pc σ j)
theorem m_mask0 {K : Nat} (hK : K < 65536) : ∃ q : Nat, q < 65536 ∧ nI K &&& 65520 = nI q := by
  refine ⟨K &&& 65520, Nat.lt_of_le_of_lt Nat.and_le_left hK, ?_⟩
  show nI K &&& nI 65520 = _
  apply Int32.toBitVec_inj.mp
  show (nI K).toBitVec &&& (nI 65520).toBitVec = (nI (K &&& 65520)).toBitVec
  apply BitVec.eq_of_toNat_eq
  rw [BitVec.toNat_and, pk_tn (by omega), pk_tn (by decide), pk_tn (Nat.lt_of_le_of_lt Nat.and_le_left (by omega))]
theorem m_kept_at {n : Nat} {σ : MS} {a : Int32} (hI : m_Inv n σ) (ha : ∃ K : Nat, K < 65536 ∧ a = nI K) (c : ¬ m_isKept n σ a = 0) : x_in4 n (m_pc σ (m_slot a).toNatClampNeg) := by
  obtain ⟨j, hj, e⟩ := vp_in_of (m_slot_in a) (by decide)
  unfold m_isKept at c
  rw [e] at c ⊢
  obtain ⟨K, hK, rfl⟩ := ha
  split at c
  · rename_i h
    rw [nI_clamp (by omega)] at h ⊢
    rcases hI j hj with q | q
    · obtain ⟨z, hz, ez⟩ := m_mask0 hK
      rw [q, ez] at h
      exact absurd h.symm (x_nm1 (by omega))
    · exact q
  · exact absurd rfl c
theorem m_keeps_inv {n : Nat} {σ τ : MS} {a v q : Int32} (hI : m_Inv n σ) (hq : x_in4 n q) (e : m_keeps n σ a v q = τ) : m_Inv n τ := by
  subst e
  intro j hj
  show upd (m_pg σ) _ _ j = -1 ∨ x_in4 n (upd (m_pc σ) _ _ j)
  by_cases h : j = (m_slot a).toNatClampNeg
  · right; simp [upd, h]; exact hq
  · rcases hI j hj with z | z
    · left; simp [upd, h]; exact z
    · right; simp [upd, h]; exact z
theorem m_putFour_l {n : Nat} {a v : Int32} : ∀ (f : Nat) (i : Int32) (τ : MS), m_pg (m_putFour_l1 n a v f i τ) = m_pg τ ∧ m_pc (m_putFour_l1 n a v f i τ) = m_pc τ := by
  intro f
  induction f with
  | zero => intro i τ; exact ⟨rfl, rfl⟩
  | succ f ih =>
    intro i τ
    unfold m_putFour_l1
    split
    · exact ⟨rfl, rfl⟩
    · exact ih _ _
theorem m_putFour_inv {n : Nat} {σ τ : MS} {a v : Int32} (hI : m_Inv n σ) (e : m_putFour n σ a v = τ) : m_Inv n τ := by
  subst e
  intro j hj
  have h := m_putFour_l (n := n) (a := a) (v := v) 5 0 σ
  unfold m_putFour
  rw [h.1, h.2]
  exact hI j hj
theorem m_putFour_ad {n : Nat} {a v : Int32} : ∀ (f : Nat) (i : Int32) (τ : MS), m_ad (m_putFour_l1 n a v f i τ) = m_ad τ ∧ m_lk (m_putFour_l1 n a v f i τ) = m_lk τ := by
  intro f
  induction f with
  | zero => intro i τ; exact ⟨rfl, rfl⟩
  | succ f ih =>
    intro i τ
    unfold m_putFour_l1
    split
    · exact ⟨rfl, rfl⟩
    · exact ih _ _
theorem m_cnt4 {k : Int32} (c : ¬ m_isSize k = 0) : ∃ K : Nat, K ≤ 4 ∧ k = nI K := x_cnt4 c
theorem m_im1 {i : Int32} {j : Nat} (ej : i = nI j) (hlt : j < 4) (c : ¬ i = 0) : vp_in (i - 1) 4 := by
  subst ej
  have h0 : 0 < j := by
    rcases Nat.eq_zero_or_pos j with q | q
    · subst q; exact absurd rfl c
    · exact q
  rw [show (1 : Int32) = nI 1 from rfl, pk_sub (by omega)]
  exact vp_in_nI (by omega) (by decide)
theorem m_jpos {i : Int32} {j : Nat} (ei : i = nI j - 1) (c : ¬ i < 0) : 0 < j := by
  rcases Nat.eq_zero_or_pos j with q | q
  · subst q; subst ei; exact absurd (by decide) c
  · exact q
theorem m_j1 {i : Int32} {j : Nat} (ei : i = nI j - 1) (hj1 : 0 < j) : i = nI (j - 1) := by
  rw [ei, show (1 : Int32) = nI 1 from rfl, pk_sub (by omega)]
theorem m_jix {i : Int32} {j : Nat} (ei : i = nI j - 1) (hj1 : 0 < j) (hj : j ≤ 4) : vp_in i 4 := by
  rw [m_j1 ei hj1]; exact vp_in_nI (by omega) (by omega)
theorem m_jat {i ct : Int32} {j N : Nat} {g : Nat → Int32} (ei : i = nI j - 1) (hj1 : 0 < j) (hj : j ≤ 4) (hc : ∃ K : Nat, K ≤ 4 ∧ j ≤ K ∧ ct = nI K) (hq : ∀ q : Nat, q < 4 → nI q < ct → vp_in (g q) N) : vp_in (g i.toNatClampNeg) N := by
  rw [m_j1 ei hj1, nI_clamp (by omega)]
  obtain ⟨K, hK, hjK, rfl⟩ := hc
  exact hq (j - 1) (by omega) (nI_lt (by omega) (by omega))
theorem m_dec {i : Int32} {j : Nat} (ei : i = nI j - 1) (hj1 : 0 < j) : i + (-1) = nI (j - 1) - 1 := by
  rw [m_j1 ei hj1, Int32.sub_eq_add_neg]
theorem m_decK {ct : Int32} {j : Nat} (hc : ∃ K : Nat, K ≤ 4 ∧ j ≤ K ∧ ct = nI K) : ∃ K : Nat, K ≤ 4 ∧ j - 1 ≤ K ∧ ct = nI K := by
  obtain ⟨K, h1, h2, h3⟩ := hc; exact ⟨K, h1, by omega, h3⟩
theorem m_K_e {ct : Int32} (c : ¬ m_isSize ct = 0) : ct - 1 = nI ct.toNatClampNeg - 1 := by
  obtain ⟨K, hK, rfl⟩ := m_cnt4 c; rw [nI_clamp (by omega)]
theorem m_K_4 {ct : Int32} (c : ¬ m_isSize ct = 0) : ct.toNatClampNeg ≤ 4 := by
  obtain ⟨K, hK, rfl⟩ := m_cnt4 c; rw [nI_clamp (by omega)]; exact hK
theorem m_K_c {ct : Int32} (c : ¬ m_isSize ct = 0) : ∃ K : Nat, K ≤ 4 ∧ ct.toNatClampNeg ≤ K ∧ ct = nI K := by
  obtain ⟨K, hK, rfl⟩ := m_cnt4 c; exact ⟨K, hK, by rw [nI_clamp (by omega)]; omega, rfl⟩
theorem m_re2 {n : Nat} {a ct md b : Int32} (hn : n ≤ 2048) (hc : ∃ K : Nat, K ≤ 4 ∧ ct = nI K) : ∀ (f j : Nat) (τ τ2 : MS) (r : Int32), j ≤ 4 → 5 ≤ j + f → m_reach_l2 n a ct md b f (nI j) τ = (r, τ2) → 0 ≤ r → τ2 = τ ∧ ∀ q : Nat, j ≤ q → q < 4 → nI q < ct → vp_in (m_li τ q) n := by
  intro f
  induction f with
  | zero => intro j τ τ2 r h1 h2; omega
  | succ f ih =>
    intro j τ τ2 r h1 h2 e c
    unfold m_reach_l2 at e
    split at e
    · rename_i h
      obtain ⟨-, rfl⟩ := x_inj e
      refine ⟨rfl, fun q hq hq4 hc => ?_⟩
      exact absurd (Int32.le_trans h (nI_le hq (by omega))) (Int32.not_le.mpr hc)
    · rename_i h
      have hlt := x_ltK hc h1 rfl (by omega) h
      split at e
      · obtain ⟨rfl, -⟩ := x_inj e; exact absurd c (by decide)
      · rename_i hm
        rw [nI_1] at e
        obtain ⟨e1, e2⟩ := ih (j + 1) τ τ2 r (by omega) (by omega) e c
        refine ⟨e1, fun q hq hq4 hc => ?_⟩
        rcases (show q = j ∨ j + 1 ≤ q by omega) with rfl | hq
        · rw [nI_clamp (by omega)] at hm
          exact m_thn hn hm
        · exact e2 q hq hq4 hc
theorem m_re1 {n : Nat} {a ct md b : Int32} (hn : n ≤ 2048) (hc : ∃ K : Nat, K ≤ 4 ∧ ct = nI K) : ∀ (f j : Nat) (τ τ2 : MS) (r : Int32), j ≤ 4 → 5 ≤ j + f → m_reach_l1 n a ct md b f (nI j) τ = (r, τ2) → 0 ≤ r → ∀ q : Nat, q < 4 → nI q < ct → vp_in (m_li τ2 q) n := by
  intro f
  induction f with
  | zero => intro j τ τ2 r h1 h2; omega
  | succ f ih =>
    intro j τ τ2 r h1 h2 e c
    unfold m_reach_l1 kb at e
    dsimp only at e
    split at e
    · obtain ⟨rfl, e2⟩ := m_re2 hn hc 5 0 τ τ2 r (by omega) (by omega) e c
      exact fun q hq => e2 q (Nat.zero_le _) hq
    · rename_i h
      have hlt := x_ltK hc h1 rfl (by omega) h
      rw [nI_1] at e
      split at e
      · split at e
        · exact ih (j + 1) _ τ2 r (by omega) (by omega) e c
        · rename_i h3
          split at e
          · obtain ⟨rfl, -⟩ := x_inj e; exact absurd c h3
          · obtain ⟨rfl, -⟩ := x_inj e; exact absurd c h3
      · split at e
        · split at e
          · exact ih (j + 1) _ τ2 r (by omega) (by omega) e c
          · rename_i h3
            split at e
            · obtain ⟨rfl, -⟩ := x_inj e; exact absurd c h3
            · obtain ⟨rfl, -⟩ := x_inj e; exact absurd c h3
        · exact ih (j + 1) _ τ2 r (by omega) (by omega) e c
theorem m_re_in {n : Nat} {σ τ : MS} {a ct md b r : Int32} (hn : n ≤ 2048) (c : ¬ m_isSize ct = 0) (e : m_reach n σ a ct md b = (r, τ)) (c0 : 0 ≤ r) : ∀ q : Nat, q < 4 → nI q < ct → vp_in (m_li τ q) 2048 := fun q h1 h2 => m_up hn (m_re1 hn (m_cnt4 c) 5 0 σ τ r (by omega) (by omega) e c0 q h1 h2)
