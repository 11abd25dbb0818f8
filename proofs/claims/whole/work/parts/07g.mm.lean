set_option maxHeartbeats 4000000 in
set_option maxRecDepth 100000 in
theorem c_m_reach (l : Launch) (dC : Nat → ClassId) (dI : Nat → Nat → Nat) (h : Nat → Nat) (cI : ClassId) (n : Nat) (sz : Nat) (σ : MS) (a : Int32) (ct : Int32) (md : Int32) (b : Int32) (hn : n ≤ 2048) (hI : m_Inv n σ) (hc : ∃ K : Nat, K ≤ 4 ∧ ct = nI K) : Met l yX1_reach wsX1_reach ({ frames := 5, cells := 0, slots := 0, locals := 115 }) (va_Pc [.ref (h 0), .int a, .int ct, .int md, .int b] (m_BM dC dI h cI n sz σ)) (q_m_reach dC dI h cI n σ a ct md b (va_A (m_ws h cI n σ) sz)) 0 0 (va_A (m_ws h cI n σ) sz) := by
  refine Met.ofW (cc := cX1_reach) (maxL := 8) (ret := (some .int)) (by decide) rfl ?_
  intro p e s m args below meth c s₁ B hml hv
  obtain ⟨rfl, hsz, hP, hK, hD0⟩ := hv
  have hx := B.exec
  have hb := B.bytes
  have hr := B.returns
  have hts : ∀ w ∈ bX1, w.before _ s = true := fun w h => atoms_spec (ws := wsX1_reach) B.pre w (List.mem_cons_of_mem _ h)
  have hown : s.vm.findClass RX1 = some m.cls := findClass_of_methodNamed B.named
  have hlocks := B.notSynchronized
  subst hsz
  have hD := hD0.self (sz := s.heap.size)
  generalize hAe : va_A (m_ws h cI n σ) s.heap.size = A at hD ⊢
  have hA : ∀ q : Nat, s.heap.size ≤ q → A q := fun q h => by rw [← hAe]; exact Or.inr h
  have hS : va_S A s.heap s.heap [] := va_S.rf
  have hP : va_P (dC, dI) vwCl (m_ws h cI n σ) s.heap := hP
  have hl := lv_entry ([.ref (h 0), .int a, .int ct, .int md, .int b]) (n := 8) (Nat.le_of_ble_eq_true rfl)
  rw [lg_entry_eq]
  generalize (lg_sl ([.ref (h 0), .int a, .int ct, .int md, .int b]) ++ List.replicate (8 - (lg_sl ([.ref (h 0), .int a, .int ct, .int md, .int b])).length) Slot.unset).toArray = ls at hl ⊢
  have hl : lv_has ls 8 [(0, .ref (h 0)), (1, .int a), (2, .int ct), (3, .int md), (4, .int b)] := hl
  have key_l2 : ∀ (f j : Nat) (i : Int32) (τ : MS) (H : Heap) (locs : List Loc) (ls : Array Slot), (i = nI j) → (j ≤ 4) → (5 ≤ j + f) → m_reach n σ a ct md b = m_reach_l2 n a ct md b f i τ → va_P (dC, dI) vwCl (m_ws h cI n τ) H → va_D A (m_ws h cI n τ) → va_S A s.heap H locs → lv_has ls 8 [(5, .int i), (0, .ref (h 0)), (1, .int a), (2, .int ct), (3, .int md), (4, .int b)] → W p l e (headSpec wsX1_reach ({ frames := 5, cells := 0, slots := 0, locals := 115 })).room s m ([.ref (h 0), .int a, .int ct, .int md, .int b] : List Value).toArray below meth c H locs 0 0 (MQ below (q_m_reach dC dI h cI n σ a ct md b A) ([.ref (h 0), .int a, .int ct, .int md, .int b] : List Value).toArray s 0 0 A) (F0 m 105 ls []) := by
    intro f
    induction f with
    | zero => intro j i τ H locs ls ej hj hf; exact absurd hf (by omega)
    | succ f ih =>
      intro j i τ H locs ls ej hj hf hm hP hD hS hl
      refine lv_iload hx hb dX1_reach_105 (lv_at hl 0 rfl) ?_
      refine lv_iload_n hx hb dX1_reach_107 rfl (lv_at hl 3 rfl) ?_
      refine lv_icmp_ge (tgt := 134) hx hb dX1_reach_108 (by decide) (fun c_101 => ?_) (fun c_101 => ?_)
      · refine lv_iconst (v := 0) hx hb dX1_reach_134 (by decide) ?_
        exact W.iret (v := 0) hx hb hr (fun t ht hW => ⟨⟨0, τ, rfl, hm.trans ((if_pos c_101).trans rfl), by rw [ht]; exact hP, va_K.moved hW.alike hK, hD⟩, hS.F ht⟩) hS.2.2 dX1_reach_135
      · have hlt : j < 4 := x_ltK hc hj ej (by omega) c_101
        refine lv_aload_n hx hb dX1_reach_111 rfl (lv_at hl 1 rfl) ?_
        refine lv_aload_n hx hb dX1_reach_112 rfl (lv_at hl 1 rfl) ?_
        refine va_get (D := (dC, dI)) (ci := 1) (v := .ref (h 9)) (C := RX1) (T := TX1) (N := 14) hx hb hts inbX1 hown hK hP 0 rfl rfl 10 (by decide) (hts _ bX1_10) (fun _ h9 => h9) rfl dX1_reach_113 ?_
        refine lv_iload hx hb dX1_reach_116 (lv_at hl 0 rfl) ?_
        refine va_iald hx hb hK hP 9 0 rfl rfl (by rw [ej]; exact vp_in_nI hlt (by omega)) dX1_reach_118 ?_
        refine vp_callSi (W.runV (C := RX1) (As := [.int (m_li τ (i).toNatClampNeg)]) (rest := []) ⟨hx, hb, hml, hown, hts⟩ (c_m_isThere l dC dI h cI n τ (m_li τ (i).toNatClampNeg) ) (cwV 1 hts gX1_X1_isThere rfl rfl rfl (by decide +kernel) ⟨Nat.le_of_ble_eq_true rfl, Nat.le_of_ble_eq_true rfl⟩) (m_preP hK hP) rfl rfl hl.1 rfl (lv_room (Nat.le_of_ble_eq_true rfl)) dX1_reach_119 ⟨Nat.zero_le _, Nat.zero_le _⟩) (fun r er => ?_)
        subst er
        refine lv_if_ne (tgt := 128) hx hb dX1_reach_122 (by decide) (fun c_102 => ?_) (fun c_102 => ?_)
        · refine lv_iinc (v := (i + 1)) (lv' := [(5, .int (i + 1)), (0, .ref (h 0)), (1, .int a), (2, .int ct), (3, .int md), (4, .int b)]) hx hb dX1_reach_128 hl (k := 0) rfl rfl (by decide) rfl (fun ls hl => ?_)
          refine lv_goto (tgt := 105) hx hb dX1_reach_131 (by decide) ?_
          exact ih (j + 1) (i + 1) τ _ _ _ (by rw [ej]; exact nI_1 j) (by omega) (by omega) (hm.trans ((if_neg c_101).trans ((if_neg c_102).trans rfl))) hP hD hS (lv_sub hl [0, 1, 2, 3, 4, 5] rfl)
        · refine lv_bipush (v := (-100)) hx hb dX1_reach_125 (by decide) ?_
          exact W.iret (v := (-100)) hx hb hr (fun t ht hW => ⟨⟨(-100), τ, rfl, hm.trans ((if_neg c_101).trans ((if_pos c_102).trans rfl)), by rw [ht]; exact hP, va_K.moved hW.alike hK, hD⟩, hS.F ht⟩) hS.2.2 dX1_reach_127
  have key_l1 : ∀ (f j : Nat) (i : Int32) (τ : MS) (H : Heap) (locs : List Loc) (ls : Array Slot), (i = nI j) → (j ≤ 4) → (5 ≤ j + f) → (m_Inv n τ) → m_reach n σ a ct md b = m_reach_l1 n a ct md b f i τ → va_P (dC, dI) vwCl (m_ws h cI n τ) H → va_D A (m_ws h cI n τ) → va_S A s.heap H locs → lv_has ls 8 [(5, .int i), (0, .ref (h 0)), (1, .int a), (2, .int ct), (3, .int md), (4, .int b)] → W p l e (headSpec wsX1_reach ({ frames := 5, cells := 0, slots := 0, locals := 115 })).room s m ([.ref (h 0), .int a, .int ct, .int md, .int b] : List Value).toArray below meth c H locs 0 0 (MQ below (q_m_reach dC dI h cI n σ a ct md b A) ([.ref (h 0), .int a, .int ct, .int md, .int b] : List Value).toArray s 0 0 A) (F0 m 3 ls []) := by
    intro f
    induction f with
    | zero => intro j i τ H locs ls ej hj hf hI; exact absurd hf (by omega)
    | succ f ih =>
      intro j i τ H locs ls ej hj hf hI hm hP hD hS hl
      refine lv_iload hx hb dX1_reach_3 (lv_at hl 0 rfl) ?_
      refine lv_iload_n hx hb dX1_reach_5 rfl (lv_at hl 3 rfl) ?_
      refine lv_icmp_ge (tgt := 102) hx hb dX1_reach_6 (by decide) (fun c_201 => ?_) (fun c_201 => ?_)
      · refine lv_iconst (v := 0) hx hb dX1_reach_102 (by decide) ?_
        refine lv_istore (lv' := [(5, .int 0), (0, .ref (h 0)), (1, .int a), (2, .int ct), (3, .int md), (4, .int b)]) hx hb dX1_reach_103 hl (by decide) rfl (fun ls hl => ?_)
        exact key_l2 5 0 0 τ _ _ _ nI_0.symm (by omega) (by omega) (hm.trans ((if_pos c_201).trans rfl)) hP hD hS (lv_sub hl [0, 1, 2, 3, 4, 5] rfl)
      · have hlt : j < 4 := x_ltK hc hj ej (by omega) c_201
        refine lv_iload_n hx hb dX1_reach_9 rfl (lv_at hl 2 rfl) ?_
        refine lv_iload hx hb dX1_reach_10 (lv_at hl 0 rfl) ?_
        refine lv_iadd hx hb dX1_reach_12 ?_
        refine lv_ldc (v := 65535) hx hb hown (hts _ bX1_16) dX1_reach_13 ?_
        refine lv_iand hx hb dX1_reach_15 ?_
        refine lv_istore (lv' := [(6, .int ((a + i) &&& 65535)), (5, .int i), (0, .ref (h 0)), (1, .int a), (2, .int ct), (3, .int md), (4, .int b)]) hx hb dX1_reach_16 hl (by decide) rfl (fun ls hl => ?_)
        refine lv_iload hx hb dX1_reach_18 (lv_at hl 1 rfl) ?_
        refine lv_if_eq (tgt := 31) hx hb dX1_reach_20 (by decide) (fun c_202 => ?_) (fun c_202 => ?_)
        · refine lv_aload_n hx hb dX1_reach_31 rfl (lv_at hl 2 rfl) ?_
          refine lv_iload hx hb dX1_reach_32 (lv_at hl 0 rfl) ?_
          refine lv_iload_n hx hb dX1_reach_34 rfl (lv_at hl 5 rfl) ?_
          refine lv_iconst (v := 3) hx hb dX1_reach_35 (by decide) ?_
          refine lv_iand hx hb dX1_reach_36 ?_
          refine lv_iload hx hb dX1_reach_37 (lv_at hl 6 rfl) ?_
          refine lv_iconst (v := 1) hx hb dX1_reach_39 (by decide) ?_
          refine m_calli (f := (m_translate n τ ((a + i) &&& 65535) (md &&& 3) b 1)) (va_runV (C := RX1) (As := [.int ((a + i) &&& 65535), .int (md &&& 3), .int b, .int 1]) (rest := []) ⟨hx, hb, hml, hown, hts⟩ (c_m_translate l dC dI h cI n _ τ ((a + i) &&& 65535) (md &&& 3) b 1 hn hI (x_mask16 _)) (cwV 4 hts gX1_X1_translate rfl rfl rfl (by decide +kernel) ⟨Nat.le_of_ble_eq_true rfl, Nat.le_of_ble_eq_true rfl⟩) (m_preM hK hP hD) rfl rfl hl.1 rfl (lv_room (Nat.le_of_ble_eq_true rfl)) dX1_reach_40 ⟨Nat.zero_le _, Nat.zero_le _⟩) hP hD hS hA (fun r_205 t_203 H locs e_204 hP hD hS => ?_)
          have hI := m_tr_inv hn hI (x_mask16 _) e_204
          refine lv_istore (lv' := [(7, .int r_205), (6, .int ((a + i) &&& 65535)), (5, .int i), (0, .ref (h 0)), (1, .int a), (2, .int ct), (3, .int md), (4, .int b)]) hx hb dX1_reach_43 hl (by decide) rfl (fun ls hl => ?_)
          refine lv_iload hx hb dX1_reach_45 (lv_at hl 0 rfl) ?_
          refine lv_if_ge (tgt := 66) hx hb dX1_reach_47 (by decide) (fun c_206 => ?_) (fun c_206 => ?_)
          · refine lv_aload_n hx hb dX1_reach_66 rfl (lv_at hl 3 rfl) ?_
            refine va_get (D := (dC, dI)) (ci := 1) (v := .ref (h 9)) (C := RX1) (T := TX1) (N := 14) hx hb hts inbX1 hown hK hP 0 rfl rfl 10 (by decide) (hts _ bX1_10) (fun _ h9 => h9) rfl dX1_reach_67 ?_
            refine lv_iload hx hb dX1_reach_70 (lv_at hl 2 rfl) ?_
            refine lv_iload hx hb dX1_reach_72 (lv_at hl 0 rfl) ?_
            refine va_iast hx hb hK hP hD hS 9 0 rfl rfl (by rw [ej]; exact vp_in_nI hlt (by omega)) dX1_reach_74 (fun H locs hP hD hS => ?_)
            have hP := m_pLi hP
            have hD := m_dLi hD
            refine lv_goto (tgt := 96) hx hb dX1_reach_75 (by decide) ?_
            refine lv_iinc (v := (i + 1)) (lv' := [(5, .int (i + 1)), (7, .int r_205), (6, .int ((a + i) &&& 65535)), (0, .ref (h 0)), (1, .int a), (2, .int ct), (3, .int md), (4, .int b)]) hx hb dX1_reach_96 hl (k := 2) rfl rfl (by decide) rfl (fun ls hl => ?_)
            refine lv_goto (tgt := 3) hx hb dX1_reach_99 (by decide) ?_
            exact ih (j + 1) (i + 1) (m_sLi t_203 (upd (m_li t_203) ((i).toNatClampNeg) r_205)) _ _ _ (by rw [ej]; exact nI_1 j) (by omega) (by omega) hI (hm.trans ((if_neg c_201).trans ((if_pos c_202).trans ((kb_eq e_204).trans ((if_pos c_206).trans rfl))))) hP hD hS (lv_sub hl [0, 3, 4, 5, 6, 7] rfl)
          · refine lv_iload hx hb dX1_reach_50 (lv_at hl 0 rfl) ?_
            refine lv_bipush (v := (-100)) hx hb dX1_reach_52 (by decide) ?_
            refine lv_icmp_eq (tgt := 63) hx hb dX1_reach_54 (by decide) (fun c_207 => ?_) (fun c_207 => ?_)
            · refine lv_iload hx hb dX1_reach_63 (lv_at hl 0 rfl) ?_
              exact W.iret (v := r_205) hx hb hr (fun t ht hW => ⟨⟨r_205, t_203, rfl, hm.trans ((if_neg c_201).trans ((if_pos c_202).trans ((kb_eq e_204).trans ((if_neg c_206).trans ((if_pos c_207).trans rfl))))), by rw [ht]; exact hP, va_K.moved hW.alike hK, hD⟩, hS.F ht⟩) hS.2.2 dX1_reach_65
            · refine lv_aload_n hx hb dX1_reach_57 rfl (lv_at hl 3 rfl) ?_
              refine lv_iload hx hb dX1_reach_58 (lv_at hl 1 rfl) ?_
              refine va_put (D := (dC, dI)) (ci := 1) (v := .int ((a + i) &&& 65535)) (ty := .int) (C := RX1) (T := TX1) (N := 14) hx hb hts inbX1 tyX1 tyX1_ok nmX1 hown hK hP hD hS 0 rfl rfl 11 (by decide) (hts _ bX1_11) (fun _ h9 => h9) rfl (by decide +kernel) rfl rfl (Nat.le_of_ble_eq_true rfl) dX1_reach_60 (fun H locs hP hD hS => ?_)
              have hP := m_pFa hP
              have hD := m_dFa hD
              refine lv_iload hx hb dX1_reach_63 (lv_at hl 0 rfl) ?_
              exact W.iret (v := r_205) hx hb hr (fun t ht hW => ⟨⟨r_205, (m_sFa t_203 ((a + i) &&& 65535)), rfl, hm.trans ((if_neg c_201).trans ((if_pos c_202).trans ((kb_eq e_204).trans ((if_neg c_206).trans ((if_neg c_207).trans rfl))))), by rw [ht]; exact hP, va_K.moved hW.alike hK, hD⟩, hS.F ht⟩) hS.2.2 dX1_reach_65
        · refine lv_iload hx hb dX1_reach_23 (lv_at hl 0 rfl) ?_
          refine lv_bipush (v := 16) hx hb dX1_reach_25 (by decide) ?_
          refine lv_irem hx hb dX1_reach_27 (by decide) ?_
          refine lv_if_ne (tgt := 78) hx hb dX1_reach_28 (by decide) (fun c_208 => ?_) (fun c_208 => ?_)
          · refine lv_aload_n hx hb dX1_reach_78 rfl (lv_at hl 2 rfl) ?_
            refine va_get (D := (dC, dI)) (ci := 1) (v := .ref (h 9)) (C := RX1) (T := TX1) (N := 14) hx hb hts inbX1 hown hK hP 0 rfl rfl 10 (by decide) (hts _ bX1_10) (fun _ h9 => h9) rfl dX1_reach_79 ?_
            refine lv_iload hx hb dX1_reach_82 (lv_at hl 1 rfl) ?_
            refine lv_aload_n hx hb dX1_reach_84 rfl (lv_at hl 2 rfl) ?_
            refine va_get (D := (dC, dI)) (ci := 1) (v := .ref (h 9)) (C := RX1) (T := TX1) (N := 14) hx hb hts inbX1 hown hK hP 0 rfl rfl 10 (by decide) (hts _ bX1_10) (fun _ h9 => h9) rfl dX1_reach_85 ?_
            refine lv_iload hx hb dX1_reach_88 (lv_at hl 1 rfl) ?_
            refine lv_iconst (v := 1) hx hb dX1_reach_90 (by decide) ?_
            refine lv_isub hx hb dX1_reach_91 ?_
            refine va_iald hx hb hK hP 9 0 rfl rfl (m_im1 ej hlt c_202) dX1_reach_92 ?_
            refine lv_iconst (v := 1) hx hb dX1_reach_93 (by decide) ?_
            refine lv_iadd hx hb dX1_reach_94 ?_
            refine va_iast hx hb hK hP hD hS 9 0 rfl rfl (by rw [ej]; exact vp_in_nI hlt (by omega)) dX1_reach_95 (fun H locs hP hD hS => ?_)
            have hP := m_pLi hP
            have hD := m_dLi hD
            refine lv_iinc (v := (i + 1)) (lv' := [(5, .int (i + 1)), (6, .int ((a + i) &&& 65535)), (0, .ref (h 0)), (1, .int a), (2, .int ct), (3, .int md), (4, .int b)]) hx hb dX1_reach_96 hl (k := 1) rfl rfl (by decide) rfl (fun ls hl => ?_)
            refine lv_goto (tgt := 3) hx hb dX1_reach_99 (by decide) ?_
            exact ih (j + 1) (i + 1) (m_sLi τ (upd (m_li τ) ((i).toNatClampNeg) ((m_li τ ((i - 1)).toNatClampNeg) + 1))) _ _ _ (by rw [ej]; exact nI_1 j) (by omega) (by omega) hI (hm.trans ((if_neg c_201).trans ((if_neg c_202).trans ((if_neg c_208).trans rfl)))) hP hD hS (lv_sub hl [0, 2, 3, 4, 5, 6] rfl)
          · refine lv_aload_n hx hb dX1_reach_31 rfl (lv_at hl 2 rfl) ?_
            refine lv_iload hx hb dX1_reach_32 (lv_at hl 0 rfl) ?_
            refine lv_iload_n hx hb dX1_reach_34 rfl (lv_at hl 5 rfl) ?_
            refine lv_iconst (v := 3) hx hb dX1_reach_35 (by decide) ?_
            refine lv_iand hx hb dX1_reach_36 ?_
            refine lv_iload hx hb dX1_reach_37 (lv_at hl 6 rfl) ?_
            refine lv_iconst (v := 1) hx hb dX1_reach_39 (by decide) ?_
            refine m_calli (f := (m_translate n τ ((a + i) &&& 65535) (md &&& 3) b 1)) (va_runV (C := RX1) (As := [.int ((a + i) &&& 65535), .int (md &&& 3), .int b, .int 1]) (rest := []) ⟨hx, hb, hml, hown, hts⟩ (c_m_translate l dC dI h cI n _ τ ((a + i) &&& 65535) (md &&& 3) b 1 hn hI (x_mask16 _)) (cwV 4 hts gX1_X1_translate rfl rfl rfl (by decide +kernel) ⟨Nat.le_of_ble_eq_true rfl, Nat.le_of_ble_eq_true rfl⟩) (m_preM hK hP hD) rfl rfl hl.1 rfl (lv_room (Nat.le_of_ble_eq_true rfl)) dX1_reach_40 ⟨Nat.zero_le _, Nat.zero_le _⟩) hP hD hS hA (fun r_211 t_209 H locs e_210 hP hD hS => ?_)
            have hI := m_tr_inv hn hI (x_mask16 _) e_210
            refine lv_istore (lv' := [(7, .int r_211), (6, .int ((a + i) &&& 65535)), (5, .int i), (0, .ref (h 0)), (1, .int a), (2, .int ct), (3, .int md), (4, .int b)]) hx hb dX1_reach_43 hl (by decide) rfl (fun ls hl => ?_)
            refine lv_iload hx hb dX1_reach_45 (lv_at hl 0 rfl) ?_
            refine lv_if_ge (tgt := 66) hx hb dX1_reach_47 (by decide) (fun c_212 => ?_) (fun c_212 => ?_)
            · refine lv_aload_n hx hb dX1_reach_66 rfl (lv_at hl 3 rfl) ?_
              refine va_get (D := (dC, dI)) (ci := 1) (v := .ref (h 9)) (C := RX1) (T := TX1) (N := 14) hx hb hts inbX1 hown hK hP 0 rfl rfl 10 (by decide) (hts _ bX1_10) (fun _ h9 => h9) rfl dX1_reach_67 ?_
              refine lv_iload hx hb dX1_reach_70 (lv_at hl 2 rfl) ?_
              refine lv_iload hx hb dX1_reach_72 (lv_at hl 0 rfl) ?_
              refine va_iast hx hb hK hP hD hS 9 0 rfl rfl (by rw [ej]; exact vp_in_nI hlt (by omega)) dX1_reach_74 (fun H locs hP hD hS => ?_)
              have hP := m_pLi hP
              have hD := m_dLi hD
              refine lv_goto (tgt := 96) hx hb dX1_reach_75 (by decide) ?_
              refine lv_iinc (v := (i + 1)) (lv' := [(5, .int (i + 1)), (7, .int r_211), (6, .int ((a + i) &&& 65535)), (0, .ref (h 0)), (1, .int a), (2, .int ct), (3, .int md), (4, .int b)]) hx hb dX1_reach_96 hl (k := 2) rfl rfl (by decide) rfl (fun ls hl => ?_)
              refine lv_goto (tgt := 3) hx hb dX1_reach_99 (by decide) ?_
              exact ih (j + 1) (i + 1) (m_sLi t_209 (upd (m_li t_209) ((i).toNatClampNeg) r_211)) _ _ _ (by rw [ej]; exact nI_1 j) (by omega) (by omega) hI (hm.trans ((if_neg c_201).trans ((if_neg c_202).trans ((if_pos c_208).trans ((kb_eq e_210).trans ((if_pos c_212).trans rfl)))))) hP hD hS (lv_sub hl [0, 3, 4, 5, 6, 7] rfl)
            · refine lv_iload hx hb dX1_reach_50 (lv_at hl 0 rfl) ?_
              refine lv_bipush (v := (-100)) hx hb dX1_reach_52 (by decide) ?_
              refine lv_icmp_eq (tgt := 63) hx hb dX1_reach_54 (by decide) (fun c_213 => ?_) (fun c_213 => ?_)
              · refine lv_iload hx hb dX1_reach_63 (lv_at hl 0 rfl) ?_
                exact W.iret (v := r_211) hx hb hr (fun t ht hW => ⟨⟨r_211, t_209, rfl, hm.trans ((if_neg c_201).trans ((if_neg c_202).trans ((if_pos c_208).trans ((kb_eq e_210).trans ((if_neg c_212).trans ((if_pos c_213).trans rfl)))))), by rw [ht]; exact hP, va_K.moved hW.alike hK, hD⟩, hS.F ht⟩) hS.2.2 dX1_reach_65
              · refine lv_aload_n hx hb dX1_reach_57 rfl (lv_at hl 3 rfl) ?_
                refine lv_iload hx hb dX1_reach_58 (lv_at hl 1 rfl) ?_
                refine va_put (D := (dC, dI)) (ci := 1) (v := .int ((a + i) &&& 65535)) (ty := .int) (C := RX1) (T := TX1) (N := 14) hx hb hts inbX1 tyX1 tyX1_ok nmX1 hown hK hP hD hS 0 rfl rfl 11 (by decide) (hts _ bX1_11) (fun _ h9 => h9) rfl (by decide +kernel) rfl rfl (Nat.le_of_ble_eq_true rfl) dX1_reach_60 (fun H locs hP hD hS => ?_)
                have hP := m_pFa hP
                have hD := m_dFa hD
                refine lv_iload hx hb dX1_reach_63 (lv_at hl 0 rfl) ?_
                exact W.iret (v := r_211) hx hb hr (fun t ht hW => ⟨⟨r_211, (m_sFa t_209 ((a + i) &&& 65535)), rfl, hm.trans ((if_neg c_201).trans ((if_neg c_202).trans ((if_pos c_208).trans ((kb_eq e_210).trans ((if_neg c_212).trans ((if_neg c_213).trans rfl)))))), by rw [ht]; exact hP, va_K.moved hW.alike hK, hD⟩, hS.F ht⟩) hS.2.2 dX1_reach_65
  refine lv_iconst (v := 0) hx hb dX1_reach_0 (by decide) ?_
  refine lv_istore (lv' := [(5, .int 0), (0, .ref (h 0)), (1, .int a), (2, .int ct), (3, .int md), (4, .int b)]) hx hb dX1_reach_1 hl (by decide) rfl (fun ls hl => ?_)
  exact key_l1 5 0 0 σ _ _ _ nI_0.symm (by omega) (by omega) hI (rfl) hP hD hS (lv_sub hl [0, 1, 2, 3, 4, 5] rfl)
