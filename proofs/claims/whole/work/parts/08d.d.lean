-- four bytes are written
def sB (v : Int32) (k : Nat) : Int32 := (v >>> (((8 : Int32) * nI k) &&& 31)) &&& 255
theorem s_i0 {q : Nat} (hq : q + 4 ≤ 2048) : (nI q + 0).toNatClampNeg = q ∧ (nI q + (0 + 1)).toNatClampNeg = q + 1 ∧ (nI q + (0 + 1 + 1)).toNatClampNeg = q + 2 ∧ (nI q + (0 + 1 + 1 + 1)).toNatClampNeg = q + 3 := by
  refine ⟨?_, ?_, ?_, ?_⟩
  · rw [Int32.add_zero, nI_clamp (by omega)]
  · rw [show (0 : Int32) + 1 = nI 1 from rfl, nI_add, nI_clamp (by omega)]
  · rw [show (0 : Int32) + 1 + 1 = nI 2 from rfl, nI_add, nI_clamp (by omega)]
  · rw [show (0 : Int32) + 1 + 1 + 1 = nI 3 from rfl, nI_add, nI_clamp (by omega)]
def s_f4 (f : Nat → Int32) (q : Nat) (b0 b1 b2 b3 : Int32) : Nat → Int32 := upd (upd (upd (upd f q b0) (q + 1) b1) (q + 2) b2) (q + 3) b3
theorem s_pst {n f : Nat} {a v i : Int32} {τ : MS} (h : ¬ (4 : Int32) ≤ i) : m_putFour_l1 n a v (f + 1) i τ = m_putFour_l1 n a v f (i + 1) (m_sMem τ (upd (m_mem τ) (a + i).toNatClampNeg ((v >>> (((8 : Int32) * i) &&& 31)) &&& 255))) := if_neg h
theorem s_pst0 {n f : Nat} {a v i : Int32} {τ : MS} (h : (4 : Int32) ≤ i) : m_putFour_l1 n a v (f + 1) i τ = τ := if_pos h
theorem s_pf {n : Nat} {μ : MS} {q : Nat} {v : Int32} (hq : q + 4 ≤ 2048) : m_putFour n μ (nI q) v = m_sMem μ (s_f4 (m_mem μ) q (sB v 0) (sB v 1) (sB v 2) (sB v 3)) := by
  obtain ⟨i0, i1, i2, i3⟩ := s_i0 hq
  show m_putFour_l1 n (nI q) v 5 0 μ = _
  rw [s_pst (i := 0) (by decide), s_pst (i := 0 + 1) (by decide), s_pst (i := 0 + 1 + 1) (by decide), s_pst (i := 0 + 1 + 1 + 1) (by decide), s_pst0 (i := 0 + 1 + 1 + 1 + 1) (by decide), i0, i1, i2, i3]
  rfl
def sX (v : Int32) (k : Nat) : Int32 := vp_nar .byte ((jushr v ((8 : Int32) * nI k)).toInt8.toInt32)
theorem s_est {n f : Nat} {a v i : Int32} {τ : XS} (h : ¬ (4 : Int32) ≤ i) : x_entry_l1 n a v (f + 1) i τ = x_entry_l1 n a v f (i + 1) (x_sMem τ (upd (x_mem τ) (a + i).toNatClampNeg (vp_nar .byte ((jushr v ((8 : Int32) * i)).toInt8.toInt32)))) := if_neg h
theorem s_est0 {n f : Nat} {a v i : Int32} {τ : XS} (h : (4 : Int32) ≤ i) : x_entry_l1 n a v (f + 1) i τ = (1, τ) := if_pos h
theorem s_pe {n : Nat} {σ : XS} {q : Nat} {v : Int32} (hq : q + 4 ≤ 2048) : x_entry_l1 n (nI q) v 5 0 σ = (1, x_sMem σ (s_f4 (x_mem σ) q (sX v 0) (sX v 1) (sX v 2) (sX v 3))) := by
  obtain ⟨i0, i1, i2, i3⟩ := s_i0 hq
  rw [s_est (i := 0) (by decide), s_est (i := 0 + 1) (by decide), s_est (i := 0 + 1 + 1) (by decide), s_est (i := 0 + 1 + 1 + 1) (by decide), s_est0 (i := 0 + 1 + 1 + 1 + 1) (by decide), i0, i1, i2, i3]
  rfl
theorem s_xb (v : Int32) (k : Nat) (hk : k < 4) : sX v k &&& 255 = sB v k := by
  unfold sX sB
  rw [pk_vb, bp_b, show (8 : Int32) * nI k = nI (8 * k) from pk_mul 8 k]
  exact (s_shr v (8 * k) 8 (by omega) (by omega) 255 (fun i _ => b_255 i)).symm
theorem s_memEq {n : Nat} {σ : XS} {μ : MS} {f g : Nat → Int32} (hR : sR n σ μ) (h : ∀ j, j < n → g j = f j &&& 255) : sR n (x_sMem σ f) (m_sMem μ g) := ⟨h, hR.2⟩
theorem s_f4_at (f : Nat → Int32) (q : Nat) (b0 b1 b2 b3 : Int32) (j : Nat) : s_f4 f q b0 b1 b2 b3 j = if j = q + 3 then b3 else if j = q + 2 then b2 else if j = q + 1 then b1 else if j = q then b0 else f j := rfl
theorem s_f4eq {n : Nat} {f g : Nat → Int32} {q : Nat} {a0 a1 a2 a3 b0 b1 b2 b3 : Int32} (h : ∀ j, j < n → g j = f j &&& 255) (h0 : b0 = a0 &&& 255) (h1 : b1 = a1 &&& 255) (h2 : b2 = a2 &&& 255) (h3 : b3 = a3 &&& 255) : ∀ j, j < n → s_f4 g q b0 b1 b2 b3 j = s_f4 f q a0 a1 a2 a3 j &&& 255 := by
  intro j hj
  rw [s_f4_at, s_f4_at]
  by_cases c3 : j = q + 3
  · rw [if_pos c3, if_pos c3]; exact h3
  · rw [if_neg c3, if_neg c3]
    by_cases c2 : j = q + 2
    · rw [if_pos c2, if_pos c2]; exact h2
    · rw [if_neg c2, if_neg c2]
      by_cases c1 : j = q + 1
      · rw [if_pos c1, if_pos c1]; exact h1
      · rw [if_neg c1, if_neg c1]
        by_cases c0 : j = q
        · rw [if_pos c0, if_pos c0]; exact h0
        · rw [if_neg c0, if_neg c0]; exact h j hj
theorem s_in4N {n : Nat} {a : Int32} (hn : n ≤ 2048) (h : x_in4 n a) : ∃ q : Nat, a = nI q ∧ q + 4 ≤ n := by
  obtain ⟨q, hq, rfl⟩ := vp_in_of h.1 (by omega)
  refine ⟨q, rfl, ?_⟩
  have h3 := (vp_in_iff.mp h.2.2.2).2
  rw [show (3 : Int32) = nI 3 from rfl, nI_add, nI_toInt (by omega)] at h3
  omega
-- the bit that tells of writing, in a word of four bytes
theorem s_b26 : ∀ i, i < 32 → bt 67108864 i = decide (i = 26) := by decide +kernel
theorem s_b4 : ∀ i, i < 32 → bt 4 i = decide (i = 2) := by decide +kernel
theorem s_hz {y : Int32} {i : Nat} (h : 8 ≤ i) : bt (y &&& 255) i = false := by rw [b_and, b_255, decide_eq_false (by omega), Bool.and_false]
theorem s_or4 (y : Int32) : (y ||| 4) &&& 255 = (y &&& 255) ||| 4 := by
  apply b_ext
  intro i hi
  rw [b_and, b_or, b_or, b_and, b_255, s_b4 i hi]
  by_cases h : i < 8
  · simp [h]
  · simp [h, show ¬ i = 2 by omega]
def s_w4 (y0 y1 y2 y3 : Int32) : Int32 := ((((y0 &&& 255) ||| ((y1 &&& 255) <<< ((8 : Int32) &&& 31))) ||| ((y2 &&& 255) <<< ((16 : Int32) &&& 31))) ||| ((y3 &&& 255) <<< ((24 : Int32) &&& 31)))
theorem s_w4b (y0 y1 y2 y3 : Int32) {i : Nat} (hi : i < 32) : bt (s_w4 y0 y1 y2 y3 ||| 67108864) i = ((((bt (y0 &&& 255) i || (decide (8 ≤ i) && bt (y1 &&& 255) (i - 8))) || (decide (16 ≤ i) && bt (y2 &&& 255) (i - 16))) || (decide (24 ≤ i) && bt (y3 &&& 255) (i - 24))) || decide (i = 26)) := by
  unfold s_w4
  rw [b_or, b_or, b_or, b_or, b_shl8 _ hi, b_shl16 _ hi, b_shl24 _ hi, s_b26 i hi]
theorem s_byte (y0 y1 y2 y3 : Int32) : sB (s_w4 y0 y1 y2 y3 ||| 67108864) 0 = y0 &&& 255 ∧ sB (s_w4 y0 y1 y2 y3 ||| 67108864) 1 = y1 &&& 255 ∧ sB (s_w4 y0 y1 y2 y3 ||| 67108864) 2 = y2 &&& 255 ∧ sB (s_w4 y0 y1 y2 y3 ||| 67108864) 3 = (y3 &&& 255) ||| 4 := by
  have key : ∀ (k : Nat), k < 4 → ∀ i, i < 32 → bt (sB (s_w4 y0 y1 y2 y3 ||| 67108864) k) i = (bt (s_w4 y0 y1 y2 y3 ||| 67108864) (8 * k + i) && decide (i < 8)) := by
    intro k hk i hi
    unfold sB
    rw [show (8 : Int32) * nI k = nI (8 * k) from pk_mul 8 k, b_and, b_sshr (8 * k) (by omega) _ hi, b_255]
    by_cases h : i < 8
    · rw [if_pos (by omega)]
    · simp [h]
  refine ⟨?_, ?_, ?_, ?_⟩
  · apply b_ext; intro i hi
    rw [key 0 (by omega) i hi]
    by_cases h : i < 8
    · rw [s_w4b _ _ _ _ (by omega)]
      simp [h, show ¬ 8 ≤ i by omega, show ¬ 16 ≤ i by omega, show ¬ 24 ≤ i by omega, show ¬ i = 26 by omega]
    · rw [s_hz (by omega)]; simp [h]
  · apply b_ext; intro i hi
    rw [key 1 (by omega) i hi]
    by_cases h : i < 8
    · rw [s_w4b _ _ _ _ (by omega), s_hz (y := y0) (by omega)]
      simp [h, show 8 * 1 + i - 8 = i by omega, show 8 ≤ 8 + i by omega, show ¬ 16 ≤ 8 + i by omega, show ¬ 24 ≤ 8 + i by omega, show ¬ 8 + i = 26 by omega]
    · rw [s_hz (by omega)]; simp [h]
  · apply b_ext; intro i hi
    rw [key 2 (by omega) i hi]
    by_cases h : i < 8
    · rw [s_w4b _ _ _ _ (by omega), s_hz (y := y0) (by omega), s_hz (y := y1) (by omega)]
      simp [h, show 8 * 2 + i - 16 = i by omega, show 16 ≤ 16 + i by omega, show ¬ 24 ≤ 16 + i by omega, show ¬ 16 + i = 26 by omega]
    · rw [s_hz (by omega)]; simp [h]
  · apply b_ext; intro i hi
    rw [key 3 (by omega) i hi, b_or (y3 &&& 255) 4, s_b4 i hi]
    by_cases h : i < 8
    · rw [s_w4b _ _ _ _ (by omega), s_hz (y := y0) (by omega), s_hz (y := y1) (by omega), s_hz (y := y2) (by omega), show 8 * 3 + i - 24 = i by omega, show decide (8 * 3 + i = 26) = decide (i = 2) by congr 1; exact propext ⟨fun _ => by omega, fun _ => by omega⟩]
      simp [h]
    · rw [s_hz (by omega)]; simp [h, show ¬ i = 2 by omega]
def s_wx (f : Nat → Int32) (k : Nat) : Nat → Int32 := upd f k (vp_nar .byte ((f k ||| 4).toInt8.toInt32))
theorem s_setW {n : Nat} {σ : XS} {μ : MS} {q : Nat} (hn : n ≤ 2048) (hq : q + 4 ≤ n) (hR : sR n σ μ) : sR n (x_sMem σ (s_wx (x_mem σ) (q + 3))) (m_putFour n μ (nI q) (m_four n μ (nI q) ||| 67108864)) := by
  rw [s_pf (by omega)]
  have h4 : m_four n μ (nI q) = s_w4 (x_mem σ q) (x_mem σ (q + 1)) (x_mem σ (q + 2)) (x_mem σ (q + 3)) := by
    unfold m_four s_w4
    rw [nI_1, show (2 : Int32) = nI 2 from rfl, show (3 : Int32) = nI 3 from rfl, nI_add, nI_add, nI_clamp (by omega), nI_clamp (by omega), nI_clamp (by omega), nI_clamp (by omega), hR.1 q (by omega), hR.1 (q + 1) (by omega), hR.1 (q + 2) (by omega), hR.1 (q + 3) (by omega)]
  rw [h4]
  obtain ⟨e0, e1, e2, e3⟩ := s_byte (x_mem σ q) (x_mem σ (q + 1)) (x_mem σ (q + 2)) (x_mem σ (q + 3))
  rw [e0, e1, e2, e3]
  refine s_memEq hR ?_
  intro j hj
  rw [s_f4_at]
  unfold s_wx
  by_cases c3 : j = q + 3
  · rw [if_pos c3, c3, pk_us, pk_vb, bp_b, s_or4]
  · rw [if_neg c3, pk_un c3]
    by_cases c2 : j = q + 2
    · rw [if_pos c2, c2]
    · rw [if_neg c2]
      by_cases c1 : j = q + 1
      · rw [if_pos c1, c1]
      · rw [if_neg c1]
        by_cases c0 : j = q
        · rw [if_pos c0, c0]
        · rw [if_neg c0]; exact hR.1 j hj
theorem s_mw {n : Nat} {σ : XS} {k a e q : Int32} (h : (e &&& 67108864) = 0) : x_markWritten n (x_keepEntry n σ k a e q) k = x_keepEntry n (x_sMem σ (s_wx (x_mem σ) (q + 3).toNatClampNeg)) k a (e ||| 67108864) q := by
  have e1 : x_ke (x_keepEntry n σ k a e q) k.toNatClampNeg = e := by show upd _ _ _ _ = e; exact pk_us
  have e2 : x_kpl (x_keepEntry n σ k a e q) k.toNatClampNeg = q := x_keep_kpl rfl
  unfold x_markWritten
  rw [if_pos (by rw [e1]; exact h)]
  refine Prod.ext ?_ (Prod.ext rfl (Prod.ext rfl (Prod.ext rfl (Prod.ext ?_ (Prod.ext rfl (Prod.ext rfl (Prod.ext rfl rfl)))))))
  · show upd (x_mem σ) (x_kpl (x_keepEntry n σ k a e q) k.toNatClampNeg + 4 - 1).toNatClampNeg (vp_nar .byte ((x_mem σ (x_kpl (x_keepEntry n σ k a e q) k.toNatClampNeg + 4 - 1).toNatClampNeg ||| 4).toInt8.toInt32)) = s_wx (x_mem σ) (q + 3).toNatClampNeg
    rw [e2, x_q3]
    rfl
  · show upd (upd (x_ke σ) k.toNatClampNeg e) k.toNatClampNeg (x_ke (x_keepEntry n σ k a e q) k.toNatClampNeg ||| 67108864) = upd (x_ke σ) k.toNatClampNeg (e ||| 67108864)
    rw [e1]
    funext j
    by_cases hj : j = k.toNatClampNeg
    · subst hj; rw [pk_us, pk_us]
    · rw [pk_un hj, pk_un hj, pk_un hj]
theorem s_mw1 {n : Nat} {σ : XS} {k a e q : Int32} (h : ¬ (e &&& 67108864) = 0) : x_markWritten n (x_keepEntry n σ k a e q) k = x_keepEntry n σ k a e q := by
  have e1 : x_ke (x_keepEntry n σ k a e q) k.toNatClampNeg = e := by show upd _ _ _ _ = e; exact pk_us
  unfold x_markWritten
  rw [if_neg (by rw [e1]; exact h)]
