-- numbers: what the class's own small methods answer
theorem x_c2 : (2 : Int32) = nI 2 := rfl
theorem x_inj {α β : Type} {a c : α} {b d : β} (e : (a, b) = (c, d)) : a = c ∧ b = d := ⟨congrArg Prod.fst e, congrArg Prod.snd e⟩
theorem x_code_in (v : Int32) : vp_in ((jushr v 27) &&& 15) 16 := pk_andIn (jushr v 27) (m := 15) 4 (by decide) (by decide)
theorem x_region_in (a : Int32) : vp_in (x_regionOf a) 4 := pk_andIn (jushr a 14) (m := 3) 2 (by decide) (by decide)
theorem x_page_nI (a : Int32) : ∃ j : Nat, j < 1024 ∧ x_pageOf a = nI j := pk_andE (jushr a 4) (m := 1023) 10 (by decide)
theorem x_mask16 (v : Int32) : ∃ K : Nat, K < 65536 ∧ v &&& 65535 = nI K := pk_andE v (m := 65535) 16 (by decide)
theorem x_slot_in (a : Int32) : vp_in (x_slotOf a) 16 := by
  obtain ⟨j, hj, e⟩ := x_page_nI a
  have h8 : nI j - nI j / 8 * 8 = nI (j % 8) := pk_rem (a := j) (d := 8) (by omega) (by decide) (by decide)
  unfold x_slotOf
  rw [e, h8]
  split
  · exact vp_in_nI (by omega) (by omega)
  · rw [show (8 : Int32) = nI 8 from rfl, nI_add]; exact vp_in_nI (by omega) (by omega)
def x_in4 (n : Nat) (a : Int32) : Prop := vp_in a n ∧ vp_in (a + 1) n ∧ vp_in (a + 2) n ∧ vp_in (a + 3) n
theorem x_in4_of {n j : Nat} (hn : n ≤ 2048) (h : j + 4 ≤ n) : x_in4 n (nI j) := by
  refine ⟨vp_in_nI (by omega) (by omega), ?_, ?_, ?_⟩
  · rw [nI_1]; exact vp_in_nI (by omega) (by omega)
  · rw [show (2 : Int32) = nI 2 from rfl, nI_add]; exact vp_in_nI (by omega) (by omega)
  · rw [show (3 : Int32) = nI 3 from rfl, nI_add]; exact vp_in_nI (by omega) (by omega)
theorem x_inM {n k : Nat} {σ : XS} {a : Int32} (hn : n ≤ 2048) (hk : k ≤ 4) (h : ¬ x_inMemory n σ a (nI k) = 0) : ∃ j : Nat, a = nI j ∧ j + k ≤ n := by
  unfold x_inMemory at h
  split at h
  · exact absurd rfl h
  · rename_i h1
    split at h
    · exact absurd rfl h
    · rename_i h2
      obtain ⟨j, hj, rfl⟩ := nI_of h1
      refine ⟨j, rfl, ?_⟩
      rw [Int32.lt_iff_toInt_lt, pk_sub_toInt (by omega) (by omega), nI_toInt hj] at h2
      omega
theorem x_inM1 {n : Nat} {σ : XS} {a : Int32} (hn : n ≤ 2048) (h : ¬ x_inMemory n σ a 1 = 0) : vp_in a n := by
  obtain ⟨j, rfl, hj⟩ := x_inM (k := 1) hn (by decide) h
  exact vp_in_nI (by omega) (by omega)
theorem x_inM4 {n : Nat} {σ : XS} {a : Int32} (hn : n ≤ 2048) (h : ¬ x_inMemory n σ a 4 = 0) : x_in4 n a := by
  obtain ⟨j, rfl, hj⟩ := x_inM (k := 4) hn (by decide) h
  exact x_in4_of hn hj
theorem x_r3 {r : Int32} (hk : vp_in r 4) (c : r < 3) : vp_in r 3 := by
  obtain ⟨j, hj, rfl⟩ := vp_in_of hk (by decide)
  exact vp_in_nI ((nI_ltI (b := 3) (by omega) (by decide)).mp c) (by decide)
theorem x_i16 {i : Int32} (h1 : ¬ i < 0) (h2 : ¬ 16 ≤ i) : vp_in i 16 := by
  obtain ⟨j, hj, rfl⟩ := nI_of h1
  refine vp_in_nI ?_ (by decide)
  rcases Nat.lt_or_ge j 16 with q | q
  · exact q
  · exact absurd (nI_le q hj) h2
theorem x_r3b {r : Int32} (h1 : ¬ r < 0) (h2 : r < 3) : vp_in r 3 := by
  obtain ⟨j, hj, rfl⟩ := nI_of h1
  exact vp_in_nI ((nI_ltI (b := 3) hj (by decide)).mp h2) (by decide)
theorem x_ltK {k i : Int32} {M j : Nat} (hk : ∃ K : Nat, K ≤ M ∧ k = nI K) (hj : j ≤ M) (ej : i = nI j) (hM : M < 2 ^ 31) (c : ¬ k ≤ i) : j < M := by
  obtain ⟨K, hK, rfl⟩ := hk
  subst ej
  rcases Nat.lt_or_ge j K with q | q
  · omega
  · exact absurd (nI_le q (by omega)) c
theorem x_inside_lt {n : Nat} {σ : XS} {r g : Int32} (hk : vp_in r 4) (c : ¬ x_inside n σ r g = 0) : vp_in r 3 := by
  unfold x_inside at c
  split at c
  · rename_i h; exact x_r3 hk h
  · exact absurd rfl c
theorem x_acc1 (b : Int32) : ¬ (0 : Int32) ≤ x_access 1 b := by unfold x_access; split <;> decide
theorem x_acc3 (b : Int32) : ¬ (0 : Int32) ≤ x_access 3 b := by unfold x_access; split <;> decide
theorem x_poe_in {n : Nat} {σ τ : XS} {a b k r : Int32} (hn : n ≤ 2048) (e : x_placeOfEntry n σ a b k = (r, τ)) (c : 0 ≤ r) : x_in4 n r := by
  unfold x_placeOfEntry kb at e
  dsimp only at e
  split at e
  · obtain ⟨rfl, rfl⟩ := x_inj e; exact absurd c (x_acc1 b)
  · split at e
    · split at e
      · split at e
        · obtain ⟨rfl, rfl⟩ := x_inj e; exact absurd c (by decide)
        · rename_i h; obtain ⟨rfl, rfl⟩ := x_inj e; exact x_inM4 hn h
      · rename_i h; obtain ⟨rfl, rfl⟩ := x_inj e; exact absurd c h
    · split at e
      · split at e
        · obtain ⟨rfl, rfl⟩ := x_inj e; exact absurd c (by decide)
        · rename_i h; obtain ⟨rfl, rfl⟩ := x_inj e; exact x_inM4 hn h
      · rename_i h; obtain ⟨rfl, rfl⟩ := x_inj e; exact absurd c h
-- every kept entry's place lies in memory
def x_Inv (n : Nat) (σ : XS) : Prop := ∀ j, j < 16 → x_kp σ j = -1 ∨ x_in4 n (x_kpl σ j)
theorem x_nm1 {m : Nat} (h : m < 2 ^ 31) : ¬ nI m = -1 := fun e => by
  have := congrArg Int32.toInt e
  rw [nI_toInt h] at this
  have h2 : (-1 : Int32).toInt = -1 := by decide
  omega
theorem x_inv_at {n : Nat} {σ : XS} {a : Int32} (hI : x_Inv n σ) (ha : ∃ K : Nat, K < 65536 ∧ a = nI K) (c : ¬ x_counts n σ (x_slotOf a) a = 0) : x_in4 n (x_kpl σ (x_slotOf a).toNatClampNeg) := by
  obtain ⟨j, hj, e⟩ := vp_in_of (x_slot_in a) (by decide)
  rw [e] at c ⊢
  obtain ⟨K, hK, rfl⟩ := ha
  unfold x_counts at c
  split at c
  · rename_i h
    rw [nI_clamp (by omega)] at h ⊢
    rcases hI j hj with q | q
    · rw [q, show (16 : Int32) = nI 16 from rfl, pk_div (by omega) (by decide) (by decide)] at h
      exact absurd h.symm (x_nm1 (by omega))
    · exact q
  · exact absurd rfl c
theorem x_keep_kpl {n : Nat} {σ τ : XS} {k a v q : Int32} (e : x_keepEntry n σ k a v q = τ) : x_kpl τ k.toNatClampNeg = q := by
  subst e
  show upd _ _ _ _ = q
  simp [upd]
theorem x_q3 (q : Int32) : q + 4 - 1 = q + 3 := by
  rw [Int32.sub_eq_add_neg, Int32.add_assoc]; rfl
theorem x_mark_in {n : Nat} {σ τ : XS} {k a v q : Int32} (hk : vp_in k 16) (hq : x_in4 n q) (e : x_keepEntry n σ k a v q = τ) : vp_in (x_kpl τ k.toNatClampNeg + 4 - 1) n := by
  rw [x_keep_kpl e, x_q3]
  exact hq.2.2.2
theorem x_keep_inv {n : Nat} {σ τ : XS} {k a v q : Int32} (hI : x_Inv n σ) (hq : x_in4 n q) (e : x_keepEntry n σ k a v q = τ) : x_Inv n τ := by
  subst e
  intro j hj
  show upd (x_kp σ) _ _ j = -1 ∨ x_in4 n (upd (x_kpl σ) _ _ j)
  by_cases h : j = k.toNatClampNeg
  · right; simp [upd, h]; exact hq
  · rcases hI j hj with z | z
    · left; simp [upd, h]; exact z
    · right; simp [upd, h]; exact z
theorem x_mark_inv {n : Nat} {σ τ : XS} {k : Int32} (hI : x_Inv n σ) (e : x_markWritten n σ k = τ) : x_Inv n τ := by
  unfold x_markWritten at e
  split at e
  · subst e; exact hI
  · subst e; exact hI
theorem x_pts_inv {n : Nat} {σ τ : XS} {a b k r : Int32} (hn : n ≤ 2048) (hI : x_Inv n σ) (e : x_placeThroughS n σ a b k = (r, τ)) : x_Inv n τ := by
  unfold x_placeThroughS kv at e
  dsimp only at e
  split at e
  · split at e
    · obtain ⟨-, rfl⟩ := x_inj e; exact hI
    · split at e
      · split at e
        · obtain ⟨-, rfl⟩ := x_inj e; exact hI
        · rename_i h
          split at e
          · obtain ⟨-, rfl⟩ := x_inj e; exact hI
          · split at e
            · obtain ⟨-, rfl⟩ := x_inj e; exact hI
            · obtain ⟨-, rfl⟩ := x_inj e; exact x_keep_inv hI (x_inM4 hn h) rfl
      · obtain ⟨-, rfl⟩ := x_inj e; exact hI
  · obtain ⟨-, rfl⟩ := x_inj e; exact hI
theorem x_poe_inv {n : Nat} {σ τ : XS} {a b k r : Int32} (hn : n ≤ 2048) (hI : x_Inv n σ) (e : x_placeOfEntry n σ a b k = (r, τ)) : x_Inv n τ := by
  unfold x_placeOfEntry kb at e
  dsimp only at e
  split at e
  · obtain ⟨-, rfl⟩ := x_inj e; exact hI
  · split at e
    · split at e
      · split at e
        · obtain ⟨-, rfl⟩ := x_inj e; exact hI
        · obtain ⟨-, rfl⟩ := x_inj e; exact hI
      · obtain ⟨-, rfl⟩ := x_inj e; exact hI
    · split at e
      · split at e
        · obtain ⟨-, rfl⟩ := x_inj e; exact x_pts_inv hn hI rfl
        · obtain ⟨-, rfl⟩ := x_inj e; exact x_pts_inv hn hI rfl
      · obtain ⟨-, rfl⟩ := x_inj e; exact x_pts_inv hn hI rfl
theorem x_tr_inv {n : Nat} {σ τ : XS} {a md b k r : Int32} (hn : n ≤ 2048) (hI : x_Inv n σ) (ha : ∃ K : Nat, K < 65536 ∧ a = nI K) (e : x_translate n σ a md b k = (r, τ)) : x_Inv n τ := by
  unfold x_translate kb kv at e
  dsimp only at e
  split at e
  · obtain ⟨-, rfl⟩ := x_inj e; exact hI
  · split at e
    · have hI2 : x_Inv n (x_placeOfEntry n σ a b k).2 := x_poe_inv hn hI rfl
      split at e
      · rename_i h
        have h4 : x_in4 n (x_placeOfEntry n σ a b k).1 := x_poe_in hn rfl h
        split at e
        · obtain ⟨-, rfl⟩ := x_inj e; exact hI2
        · split at e
          · obtain ⟨-, rfl⟩ := x_inj e; exact hI2
          · split at e
            · obtain ⟨-, rfl⟩ := x_inj e; exact hI2
            · split at e
              · obtain ⟨-, rfl⟩ := x_inj e; exact x_keep_inv hI2 h4 rfl
              · obtain ⟨-, rfl⟩ := x_inj e; exact x_mark_inv (x_keep_inv hI2 h4 rfl) rfl
      · obtain ⟨-, rfl⟩ := x_inj e; exact hI2
    · rename_i hc
      have h4 := x_inv_at hI ha hc
      split at e
      · split at e
        · obtain ⟨-, rfl⟩ := x_inj e; exact hI
        · split at e
          · obtain ⟨-, rfl⟩ := x_inj e; exact hI
          · split at e
            · obtain ⟨-, rfl⟩ := x_inj e; exact hI
            · split at e
              · obtain ⟨-, rfl⟩ := x_inj e; exact x_keep_inv hI h4 rfl
              · obtain ⟨-, rfl⟩ := x_inj e; exact x_mark_inv (x_keep_inv hI h4 rfl) rfl
      · obtain ⟨-, rfl⟩ := x_inj e; exact hI
theorem x_cnt4 {k : Int32} (c : ¬ x_isCount k = 0) : ∃ K : Nat, K ≤ 4 ∧ k = nI K := by
  unfold x_isCount at c
  split at c
  · exact ⟨1, by omega, by assumption⟩
  · split at c
    · exact ⟨2, by omega, by assumption⟩
    · split at c
      · exact ⟨4, by omega, by assumption⟩
      · exact absurd rfl c
theorem x_im1 {i : Int32} {j : Nat} (ej : i = nI j) (hlt : j < 4) (c : ¬ i ≤ 0) : vp_in (i - 1) 4 := by
  subst ej
  have h0 : 0 < j := by
    rcases Nat.eq_zero_or_pos j with q | q
    · subst q; exact absurd (by decide) c
    · exact q
  rw [show (1 : Int32) = nI 1 from rfl, pk_sub (by omega)]
  exact vp_in_nI (by omega) (by decide)
theorem x_in4_at {n j : Nat} {a i : Int32} (h4 : x_in4 n a) (ej : i = nI j) (hlt : j < 4) : vp_in (a + i) n := by
  subst ej
  obtain ⟨h0, h1, h2, h3⟩ := h4
  rcases (show j = 0 ∨ j = 1 ∨ j = 2 ∨ j = 3 by omega) with rfl | rfl | rfl | rfl
  · rw [nI_0, Int32.add_zero]; exact h0
  · exact h1
  · exact h2
  · exact h3
theorem x_nb {b : Int32} (h : b = 0 ∨ b = 1) : narrow .boolean (.int b) = .int b := by rcases h with rfl | rfl <;> rfl
theorem x_fb {b : Int32} (h : b = 0 ∨ b = 1) : fits .boolean (.int b) = true := by rcases h with rfl | rfl <;> rfl
theorem x_plat {n j : Nat} {i ct : Int32} {f : Nat → Int32} (ej : i = nI j) (hlt : j < 4) (hq : ∀ q : Nat, q < 4 → nI q < ct → vp_in (f q) n) (c : ¬ ct ≤ i) : vp_in (f i.toNatClampNeg) n := by
  subst ej
  rw [nI_clamp (by omega)]
  exact hq j hlt (Int32.not_le.mp c)
theorem x_fp2 {n : Nat} {a ct md b : Int32} (hn : n ≤ 2048) : ∀ (f j : Nat) (τ τ2 : XS), j ≤ 4 → 5 ≤ j + f → x_findPlaces_l2 n a ct md b f (nI j) τ = (0, τ2) → τ2 = τ ∧ ∀ q : Nat, j ≤ q → q < 4 → nI q < ct → vp_in (x_pl τ q) n := by
  intro f
  induction f with
  | zero => intro j τ τ2 h1 h2; omega
  | succ f ih =>
    intro j τ τ2 h1 h2 e
    unfold x_findPlaces_l2 at e
    split at e
    · rename_i h
      obtain ⟨-, rfl⟩ := x_inj e
      refine ⟨rfl, fun q hq hq4 hc => ?_⟩
      exact absurd (Int32.le_trans h (nI_le hq (by omega))) (Int32.not_le.mpr hc)
    · rename_i h
      split at e
      · exact absurd (x_inj e).1 (by decide)
      · rename_i hm
        have hj4 : j < 4 ∨ j = 4 := by omega
        rw [nI_1] at e
        rcases hj4 with hj | hj
        · obtain ⟨e1, e2⟩ := ih (j + 1) τ τ2 (by omega) (by omega) e
          refine ⟨e1, fun q hq hq4 hc => ?_⟩
          rcases (show q = j ∨ j + 1 ≤ q by omega) with rfl | hq
          · rw [nI_clamp (by omega)] at hm
            exact x_inM1 hn hm
          · exact e2 q hq hq4 hc
        · subst hj
          have hf0 : ∀ (f : Nat) (i : Int32) (τ τ2 : XS), x_findPlaces_l2 n a ct md b f i τ = (0, τ2) → τ2 = τ := by
            intro f
            induction f with
            | zero => intro i τ τ2 e; exact (x_inj e).2.symm
            | succ f ih =>
              intro i τ τ2 e
              unfold x_findPlaces_l2 at e
              split at e
              · exact (x_inj e).2.symm
              · split at e
                · exact absurd (x_inj e).1 (by decide)
                · exact ih _ _ _ e
          exact ⟨hf0 _ _ _ _ e, fun q hq hq4 => by omega⟩
theorem x_fp1 {n : Nat} {a ct md b : Int32} (hn : n ≤ 2048) (hc : ∃ K : Nat, K ≤ 4 ∧ ct = nI K) : ∀ (f j : Nat) (τ τ2 : XS), j ≤ 4 → 5 ≤ j + f → x_findPlaces_l1 n a ct md b f (nI j) τ = (0, τ2) → ∀ q : Nat, q < 4 → nI q < ct → vp_in (x_pl τ2 q) n := by
  intro f
  induction f with
  | zero => intro j τ τ2 h1 h2; omega
  | succ f ih =>
    intro j τ τ2 h1 h2 e
    unfold x_findPlaces_l1 kb kv at e
    dsimp only at e
    split at e
    · obtain ⟨rfl, e2⟩ := x_fp2 hn 5 0 τ τ2 (by omega) (by omega) e
      exact fun q hq => e2 q (Nat.zero_le _) hq
    · rename_i h
      have hlt := x_ltK hc h1 rfl (by omega) h
      rw [nI_1] at e
      split at e
      · split at e
        · exact ih (j + 1) _ τ2 (by omega) (by omega) e
        · rename_i h3
          exact absurd (by rw [(x_inj e).1]; decide) h3
      · split at e
        · split at e
          · exact ih (j + 1) _ τ2 (by omega) (by omega) e
          · rename_i h3
            exact absurd (by rw [(x_inj e).1]; decide) h3
        · exact ih (j + 1) _ τ2 (by omega) (by omega) e
theorem x_fp_in {n : Nat} {σ τ : XS} {a ct md b r : Int32} (hn : n ≤ 2048) (hI : x_Inv n σ) (c : ¬ x_isCount ct = 0) (e : x_findPlaces n σ a ct md b = (r, τ)) (c0 : r = 0) : ∀ q : Nat, q < 4 → nI q < ct → vp_in (x_pl τ q) n := by
  subst c0
  exact x_fp1 hn (x_cnt4 c) 5 0 σ τ (by omega) (by omega) e
