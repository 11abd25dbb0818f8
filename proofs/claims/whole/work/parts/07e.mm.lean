set_option maxHeartbeats 4000000 in
set_option maxRecDepth 100000 in
theorem c_m_look (l : Launch) (dC : Nat → ClassId) (dI : Nat → Nat → Nat) (h : Nat → Nat) (cI : ClassId) (n : Nat) (sz : Nat) (σ : MS) (a : Int32) (kp : Int32) (hn : n ≤ 2048) : Met l yX1_look wsX1_look ({ frames := 3, cells := 0, slots := 0, locals := 63 }) (va_Pc [.ref (h 0), .int a, .int kp] (m_BM dC dI h cI n sz σ)) (q_m_look dC dI h cI n σ a kp (va_A (m_ws h cI n σ) sz)) 0 0 (va_A (m_ws h cI n σ) sz) := by
  refine Met.ofW (cc := cX1_look) (maxL := 7) (ret := (some .int)) (by decide) rfl ?_
  intro p e s m args below meth c s₁ B hml hv
  obtain ⟨rfl, hsz, hP, hK, hD0⟩ := hv
  have hx := B.exec
  have hb := B.bytes
  have hr := B.returns
  have hts : ∀ w ∈ bX1, w.before _ s = true := fun w h => atoms_spec (ws := wsX1_look) B.pre w (List.mem_cons_of_mem _ h)
  have hown : s.vm.findClass RX1 = some m.cls := findClass_of_methodNamed B.named
  have hlocks := B.notSynchronized
  subst hsz
  have hD := hD0.self (sz := s.heap.size)
  generalize hAe : va_A (m_ws h cI n σ) s.heap.size = A at hD ⊢
  have hA : ∀ q : Nat, s.heap.size ≤ q → A q := fun q h => by rw [← hAe]; exact Or.inr h
  have hS : va_S A s.heap s.heap [] := va_S.rf
  have hP : va_P (dC, dI) vwCl (m_ws h cI n σ) s.heap := hP
  have hl := lv_entry ([.ref (h 0), .int a, .int kp]) (n := 7) (Nat.le_of_ble_eq_true rfl)
  rw [lg_entry_eq]
  generalize (lg_sl ([.ref (h 0), .int a, .int kp]) ++ List.replicate (7 - (lg_sl ([.ref (h 0), .int a, .int kp])).length) Slot.unset).toArray = ls at hl ⊢
  have hl : lv_has ls 7 [(0, .ref (h 0)), (1, .int a), (2, .int kp)] := hl
  refine lv_aload_n hx hb dX1_look_0 rfl (lv_at hl 0 rfl) ?_
  refine lv_iload_n hx hb dX1_look_1 rfl (lv_at hl 1 rfl) ?_
  refine vp_callSi (W.runV (C := RX1) (As := [.int a]) (rest := []) ⟨hx, hb, hml, hown, hts⟩ (c_m_isKept l dC dI h cI n σ a ) (cwV 1 hts gX1_X1_isKept rfl rfl rfl (by decide +kernel) ⟨Nat.le_of_ble_eq_true rfl, Nat.le_of_ble_eq_true rfl⟩) (m_preP hK hP) rfl rfl hl.1 rfl (lv_room (Nat.le_of_ble_eq_true rfl)) dX1_look_2 ⟨Nat.zero_le _, Nat.zero_le _⟩) (fun r er => ?_)
  subst er
  refine lv_if_eq (tgt := 36) hx hb dX1_look_5 (by decide) (fun c_1 => ?_) (fun c_1 => ?_)
  · refine lv_aload_n hx hb dX1_look_36 rfl (lv_at hl 0 rfl) ?_
    refine lv_iload_n hx hb dX1_look_37 rfl (lv_at hl 1 rfl) ?_
    refine vp_callSi (W.runV (C := RX1) (As := [.int a]) (rest := []) ⟨hx, hb, hml, hown, hts⟩ (c_m_isInside l dC dI h cI n σ a ) (cwV 1 hts gX1_X1_isInside rfl rfl rfl (by decide +kernel) ⟨Nat.le_of_ble_eq_true rfl, Nat.le_of_ble_eq_true rfl⟩) (m_preP hK hP) rfl rfl hl.1 rfl (lv_room (Nat.le_of_ble_eq_true rfl)) dX1_look_38 ⟨Nat.zero_le _, Nat.zero_le _⟩) (fun r er => ?_)
    subst er
    refine lv_if_ne (tgt := 47) hx hb dX1_look_41 (by decide) (fun c_2 => ?_) (fun c_2 => ?_)
    · refine lv_iload_n hx hb dX1_look_47 rfl (lv_at hl 1 rfl) ?_
      refine vp_callSi (W.runS (As := [.int a]) (rest := []) ⟨hx, hb, hml, hown, hts⟩ (c_m_regionOf l a ) (va_cwS 1 hts gX1_X1_regionOf rfl rfl rfl (by decide +kernel) ⟨Nat.le_of_ble_eq_true rfl, Nat.le_of_ble_eq_true rfl⟩) (fs_pre) rfl rfl hl.1 rfl (lv_room (Nat.le_of_ble_eq_true rfl)) dX1_look_48 ⟨Nat.zero_le _, Nat.zero_le _⟩) (fun r er => ?_)
      subst er
      refine lv_istore_n (lv' := [(3, .int (m_regionOf a)), (0, .ref (h 0)), (1, .int a), (2, .int kp)]) hx hb dX1_look_51 rfl hl (by decide) rfl (fun ls hl => ?_)
      refine lv_iload_n hx hb dX1_look_52 rfl (lv_at hl 0 rfl) ?_
      refine lv_iconst (v := 2) hx hb dX1_look_53 (by decide) ?_
      refine lv_icmp_ne (tgt := 77) hx hb dX1_look_54 (by decide) (fun c_3 => ?_) (fun c_3 => ?_)
      · refine lv_aload_n hx hb dX1_look_77 rfl (lv_at hl 1 rfl) ?_
        refine va_get (D := (dC, dI)) (ci := 1) (v := .ref (h 2)) (C := RX1) (T := TX1) (N := 14) hx hb hts inbX1 hown hK hP 0 rfl rfl 2 (by decide) (hts _ bX1_2) (fun _ h9 => h9) rfl dX1_look_78 ?_
        refine lv_iload_n hx hb dX1_look_81 rfl (lv_at hl 0 rfl) ?_
        refine va_iald hx hb hK hP 2 0 rfl rfl (m_in_r c_2) dX1_look_82 ?_
        refine lv_iconst (v := 4) hx hb dX1_look_83 (by decide) ?_
        refine lv_iload_n hx hb dX1_look_84 rfl (lv_at hl 2 rfl) ?_
        refine vp_callSi (W.runS (As := [.int a]) (rest := [.int 4, .int (m_bas σ ((m_regionOf a)).toNatClampNeg)]) ⟨hx, hb, hml, hown, hts⟩ (c_m_pageOf l a ) (va_cwS 1 hts gX1_X1_pageOf rfl rfl rfl (by decide +kernel) ⟨Nat.le_of_ble_eq_true rfl, Nat.le_of_ble_eq_true rfl⟩) (fs_pre) rfl rfl hl.1 rfl (lv_room (Nat.le_of_ble_eq_true rfl)) dX1_look_85 ⟨Nat.zero_le _, Nat.zero_le _⟩) (fun r er => ?_)
        subst er
        refine lv_imul hx hb dX1_look_88 ?_
        refine lv_iadd hx hb dX1_look_89 ?_
        refine lv_ldc (v := 65535) hx hb hown (hts _ bX1_16) dX1_look_90 ?_
        refine lv_iand hx hb dX1_look_92 ?_
        refine lv_topi (fun wh_4 ewh_4 => ?_)
        refine lv_istore (lv' := [(4, .int wh_4), (3, .int (m_regionOf a)), (0, .ref (h 0)), (1, .int a), (2, .int kp)]) hx hb dX1_look_93 hl (by decide) rfl (fun ls hl => ?_)
        refine lv_iload hx hb dX1_look_95 (lv_at hl 0 rfl) ?_
        refine vp_callSi (W.runS (As := [.int wh_4]) (rest := []) ⟨hx, hb, hml, hown, hts⟩ (c_m_regionOf l wh_4 ) (va_cwS 1 hts gX1_X1_regionOf rfl rfl rfl (by decide +kernel) ⟨Nat.le_of_ble_eq_true rfl, Nat.le_of_ble_eq_true rfl⟩) (fs_pre) rfl rfl hl.1 rfl (lv_room (Nat.le_of_ble_eq_true rfl)) dX1_look_97 ⟨Nat.zero_le _, Nat.zero_le _⟩) (fun r er => ?_)
        subst er
        refine lv_iconst (v := 2) hx hb dX1_look_100 (by decide) ?_
        refine lv_icmp_ne (tgt := 113) hx hb dX1_look_101 (by decide) (fun c_5 => ?_) (fun c_5 => ?_)
        · refine lv_bipush (v := (-4)) hx hb dX1_look_113 (by decide) ?_
          exact W.iret (v := (-4)) hx hb hr (fun t ht hW => ⟨⟨(-4), σ, rfl, (if_pos c_1).trans ((if_neg c_2).trans ((if_neg c_3).trans ((kv_eq ewh_4.symm).trans ((if_neg c_5).trans rfl)))), by rw [ht]; exact hP, va_K.moved hW.alike hK, hD⟩, hS.F ht⟩) hS.2.2 dX1_look_115
        · refine lv_aload_n hx hb dX1_look_104 rfl (lv_at hl 2 rfl) ?_
          refine lv_iload hx hb dX1_look_105 (lv_at hl 0 rfl) ?_
          refine vp_callSi (W.runV (C := RX1) (As := [.int wh_4]) (rest := []) ⟨hx, hb, hml, hown, hts⟩ (c_m_isInside l dC dI h cI n σ wh_4 ) (cwV 1 hts gX1_X1_isInside rfl rfl rfl (by decide +kernel) ⟨Nat.le_of_ble_eq_true rfl, Nat.le_of_ble_eq_true rfl⟩) (m_preP hK hP) rfl rfl hl.1 rfl (lv_room (Nat.le_of_ble_eq_true rfl)) dX1_look_107 ⟨Nat.zero_le _, Nat.zero_le _⟩) (fun r er => ?_)
          subst er
          refine lv_if_ne (tgt := 116) hx hb dX1_look_110 (by decide) (fun c_6 => ?_) (fun c_6 => ?_)
          · refine lv_aload_n hx hb dX1_look_116 rfl (lv_at hl 2 rfl) ?_
            refine lv_iload hx hb dX1_look_117 (lv_at hl 0 rfl) ?_
            refine vp_callSi (W.runV (C := RX1) (As := [.int wh_4]) (rest := []) ⟨hx, hb, hml, hown, hts⟩ (c_m_isKept l dC dI h cI n σ wh_4 ) (cwV 1 hts gX1_X1_isKept rfl rfl rfl (by decide +kernel) ⟨Nat.le_of_ble_eq_true rfl, Nat.le_of_ble_eq_true rfl⟩) (m_preP hK hP) rfl rfl hl.1 rfl (lv_room (Nat.le_of_ble_eq_true rfl)) dX1_look_119 ⟨Nat.zero_le _, Nat.zero_le _⟩) (fun r er => ?_)
            subst er
            refine lv_if_eq (tgt := 140) hx hb dX1_look_122 (by decide) (fun c_7 => ?_) (fun c_7 => ?_)
            · refine lv_aload_n hx hb dX1_look_140 rfl (lv_at hl 2 rfl) ?_
              refine va_get (D := (dC, dI)) (ci := 1) (v := .ref (h 2)) (C := RX1) (T := TX1) (N := 14) hx hb hts inbX1 hown hK hP 0 rfl rfl 2 (by decide) (hts _ bX1_2) (fun _ h9 => h9) rfl dX1_look_141 ?_
              refine lv_iconst (v := 2) hx hb dX1_look_144 (by decide) ?_
              refine va_iald hx hb hK hP 2 0 rfl rfl (vp_in_nI (n := 2) (by decide) (by decide)) dX1_look_145 ?_
              refine lv_iconst (v := 4) hx hb dX1_look_146 (by decide) ?_
              refine lv_iload hx hb dX1_look_147 (lv_at hl 0 rfl) ?_
              refine vp_callSi (W.runS (As := [.int wh_4]) (rest := [.int 4, .int (m_bas σ (2 : Int32).toNatClampNeg)]) ⟨hx, hb, hml, hown, hts⟩ (c_m_pageOf l wh_4 ) (va_cwS 1 hts gX1_X1_pageOf rfl rfl rfl (by decide +kernel) ⟨Nat.le_of_ble_eq_true rfl, Nat.le_of_ble_eq_true rfl⟩) (fs_pre) rfl rfl hl.1 rfl (lv_room (Nat.le_of_ble_eq_true rfl)) dX1_look_149 ⟨Nat.zero_le _, Nat.zero_le _⟩) (fun r er => ?_)
              subst er
              refine lv_imul hx hb dX1_look_152 ?_
              refine lv_iadd hx hb dX1_look_153 ?_
              refine lv_topi (fun oo_8 eoo_8 => ?_)
              refine lv_istore (lv' := [(6, .int oo_8), (4, .int wh_4), (3, .int (m_regionOf a)), (0, .ref (h 0)), (1, .int a), (2, .int kp)]) hx hb dX1_look_154 hl (by decide) rfl (fun ls hl => ?_)
              refine lv_aload_n hx hb dX1_look_156 rfl (lv_at hl 3 rfl) ?_
              refine lv_iload hx hb dX1_look_157 (lv_at hl 0 rfl) ?_
              refine vp_callSi (W.runV (C := RX1) (As := [.int oo_8]) (rest := []) ⟨hx, hb, hml, hown, hts⟩ (c_m_areFour l dC dI h cI n σ oo_8 ) (cwV 1 hts gX1_X1_areFour rfl rfl rfl (by decide +kernel) ⟨Nat.le_of_ble_eq_true rfl, Nat.le_of_ble_eq_true rfl⟩) (m_preP hK hP) rfl rfl hl.1 rfl (lv_room (Nat.le_of_ble_eq_true rfl)) dX1_look_159 ⟨Nat.zero_le _, Nat.zero_le _⟩) (fun r er => ?_)
              subst er
              refine lv_if_ne (tgt := 168) hx hb dX1_look_162 (by decide) (fun c_9 => ?_) (fun c_9 => ?_)
              · refine lv_aload_n hx hb dX1_look_168 rfl (lv_at hl 3 rfl) ?_
                refine lv_iload hx hb dX1_look_169 (lv_at hl 0 rfl) ?_
                refine vp_callSi (W.runV (C := RX1) (As := [.int oo_8]) (rest := []) ⟨hx, hb, hml, hown, hts⟩ (c_m_four l dC dI h cI n σ oo_8 (m_af hn c_9)) (cwV 1 hts gX1_X1_four rfl rfl rfl (by decide +kernel) ⟨Nat.le_of_ble_eq_true rfl, Nat.le_of_ble_eq_true rfl⟩) (m_preP hK hP) rfl rfl hl.1 rfl (lv_room (Nat.le_of_ble_eq_true rfl)) dX1_look_171 ⟨Nat.zero_le _, Nat.zero_le _⟩) (fun r er => ?_)
                subst er
                refine lv_topi (fun tb_10 etb_10 => ?_)
                refine lv_istore (lv' := [(5, .int tb_10), (6, .int oo_8), (4, .int wh_4), (3, .int (m_regionOf a)), (0, .ref (h 0)), (1, .int a), (2, .int kp)]) hx hb dX1_look_174 hl (by decide) rfl (fun ls hl => ?_)
                refine lv_iload hx hb dX1_look_176 (lv_at hl 0 rfl) ?_
                refine lv_if_lt (tgt := 184) hx hb dX1_look_178 (by decide) (fun c_11 => ?_) (fun c_11 => ?_)
                · refine lv_iload_n hx hb dX1_look_184 rfl (lv_at hl 6 rfl) ?_
                  refine lv_if_eq (tgt := 198) hx hb dX1_look_185 (by decide) (fun c_12 => ?_) (fun c_12 => ?_)
                  · refine lv_aload_n hx hb dX1_look_198 rfl (lv_at hl 4 rfl) ?_
                    refine lv_bipush (v := 16) hx hb dX1_look_199 (by decide) ?_
                    refine lv_iload hx hb dX1_look_201 (lv_at hl 0 rfl) ?_
                    refine lv_sipush (v := 4095) hx hb dX1_look_203 (by decide) ?_
                    refine lv_iand hx hb dX1_look_206 ?_
                    refine lv_imul hx hb dX1_look_207 ?_
                    refine lv_iload hx hb dX1_look_208 (lv_at hl 2 rfl) ?_
                    refine lv_bipush (v := 16) hx hb dX1_look_210 (by decide) ?_
                    refine lv_irem hx hb dX1_look_212 (by decide) ?_
                    refine lv_iadd hx hb dX1_look_213 ?_
                    refine va_put (D := (dC, dI)) (ci := 1) (v := .int (((16 : Int32) * (tb_10 &&& 4095)) + (wh_4 - wh_4 / 16 * 16))) (ty := .int) (C := RX1) (T := TX1) (N := 14) hx hb hts inbX1 tyX1 tyX1_ok nmX1 hown hK hP hD hS 0 rfl rfl 13 (by decide) (hts _ bX1_13) (fun _ h9 => h9) rfl (by decide +kernel) rfl rfl (Nat.le_of_ble_eq_true rfl) dX1_look_214 (fun H locs hP hD hS => ?_)
                    have hP := m_pAd hP
                    have hD := m_dAd hD
                    refine lv_aload_n hx hb dX1_look_217 rfl (lv_at hl 4 rfl) ?_
                    refine lv_aload_n hx hb dX1_look_218 rfl (lv_at hl 4 rfl) ?_
                    refine va_get (D := (dC, dI)) (ci := 1) (v := .int (m_ad (m_sAd σ (((16 : Int32) * (tb_10 &&& 4095)) + (wh_4 - wh_4 / 16 * 16))))) (C := RX1) (T := TX1) (N := 14) hx hb hts inbX1 hown hK hP 0 rfl rfl 13 (by decide) (hts _ bX1_13) (fun _ h9 => h9) rfl dX1_look_219 ?_
                    refine vp_callSi (W.runV (C := RX1) (As := [.int (m_ad (m_sAd σ (((16 : Int32) * (tb_10 &&& 4095)) + (wh_4 - wh_4 / 16 * 16))))]) (rest := []) ⟨hx, hb, hml, hown, hts⟩ (c_m_areFour l dC dI h cI n (m_sAd σ (((16 : Int32) * (tb_10 &&& 4095)) + (wh_4 - wh_4 / 16 * 16))) (m_ad (m_sAd σ (((16 : Int32) * (tb_10 &&& 4095)) + (wh_4 - wh_4 / 16 * 16)))) ) (cwV 1 hts gX1_X1_areFour rfl rfl rfl (by decide +kernel) ⟨Nat.le_of_ble_eq_true rfl, Nat.le_of_ble_eq_true rfl⟩) (m_preP hK hP) rfl rfl hl.1 rfl (lv_room (Nat.le_of_ble_eq_true rfl)) dX1_look_222 ⟨Nat.zero_le _, Nat.zero_le _⟩) (fun r er => ?_)
                    subst er
                    refine lv_if_ne (tgt := 231) hx hb dX1_look_225 (by decide) (fun c_13 => ?_) (fun c_13 => ?_)
                    · refine lv_aload_n hx hb dX1_look_231 rfl (lv_at hl 4 rfl) ?_
                      refine lv_aload_n hx hb dX1_look_232 rfl (lv_at hl 4 rfl) ?_
                      refine lv_aload_n hx hb dX1_look_233 rfl (lv_at hl 4 rfl) ?_
                      refine va_get (D := (dC, dI)) (ci := 1) (v := .int (m_ad (m_sAd σ (((16 : Int32) * (tb_10 &&& 4095)) + (wh_4 - wh_4 / 16 * 16))))) (C := RX1) (T := TX1) (N := 14) hx hb hts inbX1 hown hK hP 0 rfl rfl 13 (by decide) (hts _ bX1_13) (fun _ h9 => h9) rfl dX1_look_234 ?_
                      refine vp_callSi (W.runV (C := RX1) (As := [.int (m_ad (m_sAd σ (((16 : Int32) * (tb_10 &&& 4095)) + (wh_4 - wh_4 / 16 * 16))))]) (rest := [.ref (h 0)]) ⟨hx, hb, hml, hown, hts⟩ (c_m_four l dC dI h cI n (m_sAd σ (((16 : Int32) * (tb_10 &&& 4095)) + (wh_4 - wh_4 / 16 * 16))) (m_ad (m_sAd σ (((16 : Int32) * (tb_10 &&& 4095)) + (wh_4 - wh_4 / 16 * 16)))) (m_af hn c_13)) (cwV 1 hts gX1_X1_four rfl rfl rfl (by decide +kernel) ⟨Nat.le_of_ble_eq_true rfl, Nat.le_of_ble_eq_true rfl⟩) (m_preP hK hP) rfl rfl hl.1 rfl (lv_room (Nat.le_of_ble_eq_true rfl)) dX1_look_237 ⟨Nat.zero_le _, Nat.zero_le _⟩) (fun r er => ?_)
                      subst er
                      refine va_put (D := (dC, dI)) (ci := 1) (v := .int (m_four n (m_sAd σ (((16 : Int32) * (tb_10 &&& 4095)) + (wh_4 - wh_4 / 16 * 16))) (m_ad (m_sAd σ (((16 : Int32) * (tb_10 &&& 4095)) + (wh_4 - wh_4 / 16 * 16)))))) (ty := .int) (C := RX1) (T := TX1) (N := 14) hx hb hts inbX1 tyX1 tyX1_ok nmX1 hown hK hP hD hS 0 rfl rfl 12 (by decide) (hts _ bX1_12) (fun _ h9 => h9) rfl (by decide +kernel) rfl rfl (Nat.le_of_ble_eq_true rfl) dX1_look_240 (fun H locs hP hD hS => ?_)
                      have hP := m_pLk hP
                      have hD := m_dLk hD
                      refine lv_iconst (v := 0) hx hb dX1_look_243 (by decide) ?_
                      exact W.iret (v := 0) hx hb hr (fun t ht hW => ⟨⟨0, (m_sLk (m_sAd σ (((16 : Int32) * (tb_10 &&& 4095)) + (wh_4 - wh_4 / 16 * 16))) (m_four n (m_sAd σ (((16 : Int32) * (tb_10 &&& 4095)) + (wh_4 - wh_4 / 16 * 16))) (m_ad (m_sAd σ (((16 : Int32) * (tb_10 &&& 4095)) + (wh_4 - wh_4 / 16 * 16)))))), rfl, (if_pos c_1).trans ((if_neg c_2).trans ((if_neg c_3).trans ((kv_eq ewh_4.symm).trans ((if_pos c_5).trans ((if_neg c_6).trans ((if_pos c_7).trans ((kv_eq eoo_8.symm).trans ((if_neg c_9).trans ((kv_eq etb_10.symm).trans ((if_pos c_11).trans ((if_pos c_12).trans ((if_neg c_13).trans rfl)))))))))))), by rw [ht]; exact hP, va_K.moved hW.alike hK, hD⟩, hS.F ht⟩) hS.2.2 dX1_look_244
                    · refine lv_bipush (v := (-100)) hx hb dX1_look_228 (by decide) ?_
                      exact W.iret (v := (-100)) hx hb hr (fun t ht hW => ⟨⟨(-100), (m_sAd σ (((16 : Int32) * (tb_10 &&& 4095)) + (wh_4 - wh_4 / 16 * 16))), rfl, (if_pos c_1).trans ((if_neg c_2).trans ((if_neg c_3).trans ((kv_eq ewh_4.symm).trans ((if_pos c_5).trans ((if_neg c_6).trans ((if_pos c_7).trans ((kv_eq eoo_8.symm).trans ((if_neg c_9).trans ((kv_eq etb_10.symm).trans ((if_pos c_11).trans ((if_pos c_12).trans ((if_pos c_13).trans rfl)))))))))))), by rw [ht]; exact hP, va_K.moved hW.alike hK, hD⟩, hS.F ht⟩) hS.2.2 dX1_look_230
                  · refine lv_aload_n hx hb dX1_look_188 rfl (lv_at hl 4 rfl) ?_
                    refine lv_iload hx hb dX1_look_189 (lv_at hl 2 rfl) ?_
                    refine lv_iload hx hb dX1_look_191 (lv_at hl 0 rfl) ?_
                    refine lv_iload hx hb dX1_look_193 (lv_at hl 1 rfl) ?_
                    refine m_callv (f := (m_keeps n σ wh_4 tb_10 oo_8)) (va_runV (C := RX1) (As := [.int wh_4, .int tb_10, .int oo_8]) (rest := []) ⟨hx, hb, hml, hown, hts⟩ (c_m_keeps l dC dI h cI n _ σ wh_4 tb_10 oo_8 ) (cwV 3 hts gX1_X1_keeps rfl rfl rfl (by decide +kernel) ⟨Nat.le_of_ble_eq_true rfl, Nat.le_of_ble_eq_true rfl⟩) (m_preM hK hP hD) rfl rfl hl.1 rfl (lv_room (Nat.le_of_ble_eq_true rfl)) dX1_look_195 ⟨Nat.zero_le _, Nat.zero_le _⟩) hP hD hS hA (fun t_14 H locs e_15 hP hD hS => ?_)
                    refine lv_aload_n hx hb dX1_look_198 rfl (lv_at hl 4 rfl) ?_
                    refine lv_bipush (v := 16) hx hb dX1_look_199 (by decide) ?_
                    refine lv_iload hx hb dX1_look_201 (lv_at hl 0 rfl) ?_
                    refine lv_sipush (v := 4095) hx hb dX1_look_203 (by decide) ?_
                    refine lv_iand hx hb dX1_look_206 ?_
                    refine lv_imul hx hb dX1_look_207 ?_
                    refine lv_iload hx hb dX1_look_208 (lv_at hl 2 rfl) ?_
                    refine lv_bipush (v := 16) hx hb dX1_look_210 (by decide) ?_
                    refine lv_irem hx hb dX1_look_212 (by decide) ?_
                    refine lv_iadd hx hb dX1_look_213 ?_
                    refine va_put (D := (dC, dI)) (ci := 1) (v := .int (((16 : Int32) * (tb_10 &&& 4095)) + (wh_4 - wh_4 / 16 * 16))) (ty := .int) (C := RX1) (T := TX1) (N := 14) hx hb hts inbX1 tyX1 tyX1_ok nmX1 hown hK hP hD hS 0 rfl rfl 13 (by decide) (hts _ bX1_13) (fun _ h9 => h9) rfl (by decide +kernel) rfl rfl (Nat.le_of_ble_eq_true rfl) dX1_look_214 (fun H locs hP hD hS => ?_)
                    have hP := m_pAd hP
                    have hD := m_dAd hD
                    refine lv_aload_n hx hb dX1_look_217 rfl (lv_at hl 4 rfl) ?_
                    refine lv_aload_n hx hb dX1_look_218 rfl (lv_at hl 4 rfl) ?_
                    refine va_get (D := (dC, dI)) (ci := 1) (v := .int (m_ad (m_sAd t_14 (((16 : Int32) * (tb_10 &&& 4095)) + (wh_4 - wh_4 / 16 * 16))))) (C := RX1) (T := TX1) (N := 14) hx hb hts inbX1 hown hK hP 0 rfl rfl 13 (by decide) (hts _ bX1_13) (fun _ h9 => h9) rfl dX1_look_219 ?_
                    refine vp_callSi (W.runV (C := RX1) (As := [.int (m_ad (m_sAd t_14 (((16 : Int32) * (tb_10 &&& 4095)) + (wh_4 - wh_4 / 16 * 16))))]) (rest := []) ⟨hx, hb, hml, hown, hts⟩ (c_m_areFour l dC dI h cI n (m_sAd t_14 (((16 : Int32) * (tb_10 &&& 4095)) + (wh_4 - wh_4 / 16 * 16))) (m_ad (m_sAd t_14 (((16 : Int32) * (tb_10 &&& 4095)) + (wh_4 - wh_4 / 16 * 16)))) ) (cwV 1 hts gX1_X1_areFour rfl rfl rfl (by decide +kernel) ⟨Nat.le_of_ble_eq_true rfl, Nat.le_of_ble_eq_true rfl⟩) (m_preP hK hP) rfl rfl hl.1 rfl (lv_room (Nat.le_of_ble_eq_true rfl)) dX1_look_222 ⟨Nat.zero_le _, Nat.zero_le _⟩) (fun r er => ?_)
                    subst er
                    refine lv_if_ne (tgt := 231) hx hb dX1_look_225 (by decide) (fun c_16 => ?_) (fun c_16 => ?_)
                    · refine lv_aload_n hx hb dX1_look_231 rfl (lv_at hl 4 rfl) ?_
                      refine lv_aload_n hx hb dX1_look_232 rfl (lv_at hl 4 rfl) ?_
                      refine lv_aload_n hx hb dX1_look_233 rfl (lv_at hl 4 rfl) ?_
                      refine va_get (D := (dC, dI)) (ci := 1) (v := .int (m_ad (m_sAd t_14 (((16 : Int32) * (tb_10 &&& 4095)) + (wh_4 - wh_4 / 16 * 16))))) (C := RX1) (T := TX1) (N := 14) hx hb hts inbX1 hown hK hP 0 rfl rfl 13 (by decide) (hts _ bX1_13) (fun _ h9 => h9) rfl dX1_look_234 ?_
                      refine vp_callSi (W.runV (C := RX1) (As := [.int (m_ad (m_sAd t_14 (((16 : Int32) * (tb_10 &&& 4095)) + (wh_4 - wh_4 / 16 * 16))))]) (rest := [.ref (h 0)]) ⟨hx, hb, hml, hown, hts⟩ (c_m_four l dC dI h cI n (m_sAd t_14 (((16 : Int32) * (tb_10 &&& 4095)) + (wh_4 - wh_4 / 16 * 16))) (m_ad (m_sAd t_14 (((16 : Int32) * (tb_10 &&& 4095)) + (wh_4 - wh_4 / 16 * 16)))) (m_af hn c_16)) (cwV 1 hts gX1_X1_four rfl rfl rfl (by decide +kernel) ⟨Nat.le_of_ble_eq_true rfl, Nat.le_of_ble_eq_true rfl⟩) (m_preP hK hP) rfl rfl hl.1 rfl (lv_room (Nat.le_of_ble_eq_true rfl)) dX1_look_237 ⟨Nat.zero_le _, Nat.zero_le _⟩) (fun r er => ?_)
                      subst er
                      refine va_put (D := (dC, dI)) (ci := 1) (v := .int (m_four n (m_sAd t_14 (((16 : Int32) * (tb_10 &&& 4095)) + (wh_4 - wh_4 / 16 * 16))) (m_ad (m_sAd t_14 (((16 : Int32) * (tb_10 &&& 4095)) + (wh_4 - wh_4 / 16 * 16)))))) (ty := .int) (C := RX1) (T := TX1) (N := 14) hx hb hts inbX1 tyX1 tyX1_ok nmX1 hown hK hP hD hS 0 rfl rfl 12 (by decide) (hts _ bX1_12) (fun _ h9 => h9) rfl (by decide +kernel) rfl rfl (Nat.le_of_ble_eq_true rfl) dX1_look_240 (fun H locs hP hD hS => ?_)
                      have hP := m_pLk hP
                      have hD := m_dLk hD
                      refine lv_iconst (v := 0) hx hb dX1_look_243 (by decide) ?_
                      exact W.iret (v := 0) hx hb hr (fun t ht hW => ⟨⟨0, (m_sLk (m_sAd t_14 (((16 : Int32) * (tb_10 &&& 4095)) + (wh_4 - wh_4 / 16 * 16))) (m_four n (m_sAd t_14 (((16 : Int32) * (tb_10 &&& 4095)) + (wh_4 - wh_4 / 16 * 16))) (m_ad (m_sAd t_14 (((16 : Int32) * (tb_10 &&& 4095)) + (wh_4 - wh_4 / 16 * 16)))))), rfl, (if_pos c_1).trans ((if_neg c_2).trans ((if_neg c_3).trans ((kv_eq ewh_4.symm).trans ((if_pos c_5).trans ((if_neg c_6).trans ((if_pos c_7).trans ((kv_eq eoo_8.symm).trans ((if_neg c_9).trans ((kv_eq etb_10.symm).trans ((if_pos c_11).trans ((if_neg c_12).trans ((kv_eq e_15).trans ((if_neg c_16).trans rfl))))))))))))), by rw [ht]; exact hP, va_K.moved hW.alike hK, hD⟩, hS.F ht⟩) hS.2.2 dX1_look_244
                    · refine lv_bipush (v := (-100)) hx hb dX1_look_228 (by decide) ?_
                      exact W.iret (v := (-100)) hx hb hr (fun t ht hW => ⟨⟨(-100), (m_sAd t_14 (((16 : Int32) * (tb_10 &&& 4095)) + (wh_4 - wh_4 / 16 * 16))), rfl, (if_pos c_1).trans ((if_neg c_2).trans ((if_neg c_3).trans ((kv_eq ewh_4.symm).trans ((if_pos c_5).trans ((if_neg c_6).trans ((if_pos c_7).trans ((kv_eq eoo_8.symm).trans ((if_neg c_9).trans ((kv_eq etb_10.symm).trans ((if_pos c_11).trans ((if_neg c_12).trans ((kv_eq e_15).trans ((if_pos c_16).trans rfl))))))))))))), by rw [ht]; exact hP, va_K.moved hW.alike hK, hD⟩, hS.F ht⟩) hS.2.2 dX1_look_230
                · refine lv_bipush (v := (-13)) hx hb dX1_look_181 (by decide) ?_
                  exact W.iret (v := (-13)) hx hb hr (fun t ht hW => ⟨⟨(-13), σ, rfl, (if_pos c_1).trans ((if_neg c_2).trans ((if_neg c_3).trans ((kv_eq ewh_4.symm).trans ((if_pos c_5).trans ((if_neg c_6).trans ((if_pos c_7).trans ((kv_eq eoo_8.symm).trans ((if_neg c_9).trans ((kv_eq etb_10.symm).trans ((if_neg c_11).trans rfl)))))))))), by rw [ht]; exact hP, va_K.moved hW.alike hK, hD⟩, hS.F ht⟩) hS.2.2 dX1_look_183
              · refine lv_bipush (v := (-100)) hx hb dX1_look_165 (by decide) ?_
                exact W.iret (v := (-100)) hx hb hr (fun t ht hW => ⟨⟨(-100), σ, rfl, (if_pos c_1).trans ((if_neg c_2).trans ((if_neg c_3).trans ((kv_eq ewh_4.symm).trans ((if_pos c_5).trans ((if_neg c_6).trans ((if_pos c_7).trans ((kv_eq eoo_8.symm).trans ((if_pos c_9).trans rfl)))))))), by rw [ht]; exact hP, va_K.moved hW.alike hK, hD⟩, hS.F ht⟩) hS.2.2 dX1_look_167
            · refine lv_aload_n hx hb dX1_look_125 rfl (lv_at hl 2 rfl) ?_
              refine va_get (D := (dC, dI)) (ci := 1) (v := .ref (h 5)) (C := RX1) (T := TX1) (N := 14) hx hb hts inbX1 hown hK hP 0 rfl rfl 6 (by decide) (hts _ bX1_6) (fun _ h9 => h9) rfl dX1_look_126 ?_
              refine lv_iload hx hb dX1_look_129 (lv_at hl 0 rfl) ?_
              refine vp_callSi (W.runS (As := [.int wh_4]) (rest := [.ref (h 5)]) ⟨hx, hb, hml, hown, hts⟩ (c_m_slot l wh_4 ) (va_cwS 1 hts gX1_X1_slot rfl rfl rfl (by decide +kernel) ⟨Nat.le_of_ble_eq_true rfl, Nat.le_of_ble_eq_true rfl⟩) (fs_pre) rfl rfl hl.1 rfl (lv_room (Nat.le_of_ble_eq_true rfl)) dX1_look_131 ⟨Nat.zero_le _, Nat.zero_le _⟩) (fun r er => ?_)
              subst er
              refine va_iald hx hb hK hP 5 0 rfl rfl (m_slot_in _) dX1_look_134 ?_
              refine lv_topi (fun tb_17 etb_17 => ?_)
              refine lv_istore (lv' := [(5, .int tb_17), (4, .int wh_4), (3, .int (m_regionOf a)), (0, .ref (h 0)), (1, .int a), (2, .int kp)]) hx hb dX1_look_135 hl (by decide) rfl (fun ls hl => ?_)
              refine lv_goto (tgt := 198) hx hb dX1_look_137 (by decide) ?_
              refine lv_aload_n hx hb dX1_look_198 rfl (lv_at hl 3 rfl) ?_
              refine lv_bipush (v := 16) hx hb dX1_look_199 (by decide) ?_
              refine lv_iload hx hb dX1_look_201 (lv_at hl 0 rfl) ?_
              refine lv_sipush (v := 4095) hx hb dX1_look_203 (by decide) ?_
              refine lv_iand hx hb dX1_look_206 ?_
              refine lv_imul hx hb dX1_look_207 ?_
              refine lv_iload hx hb dX1_look_208 (lv_at hl 1 rfl) ?_
              refine lv_bipush (v := 16) hx hb dX1_look_210 (by decide) ?_
              refine lv_irem hx hb dX1_look_212 (by decide) ?_
              refine lv_iadd hx hb dX1_look_213 ?_
              refine va_put (D := (dC, dI)) (ci := 1) (v := .int (((16 : Int32) * (tb_17 &&& 4095)) + (wh_4 - wh_4 / 16 * 16))) (ty := .int) (C := RX1) (T := TX1) (N := 14) hx hb hts inbX1 tyX1 tyX1_ok nmX1 hown hK hP hD hS 0 rfl rfl 13 (by decide) (hts _ bX1_13) (fun _ h9 => h9) rfl (by decide +kernel) rfl rfl (Nat.le_of_ble_eq_true rfl) dX1_look_214 (fun H locs hP hD hS => ?_)
              have hP := m_pAd hP
              have hD := m_dAd hD
              refine lv_aload_n hx hb dX1_look_217 rfl (lv_at hl 3 rfl) ?_
              refine lv_aload_n hx hb dX1_look_218 rfl (lv_at hl 3 rfl) ?_
              refine va_get (D := (dC, dI)) (ci := 1) (v := .int (m_ad (m_sAd σ (((16 : Int32) * (tb_17 &&& 4095)) + (wh_4 - wh_4 / 16 * 16))))) (C := RX1) (T := TX1) (N := 14) hx hb hts inbX1 hown hK hP 0 rfl rfl 13 (by decide) (hts _ bX1_13) (fun _ h9 => h9) rfl dX1_look_219 ?_
              refine vp_callSi (W.runV (C := RX1) (As := [.int (m_ad (m_sAd σ (((16 : Int32) * (tb_17 &&& 4095)) + (wh_4 - wh_4 / 16 * 16))))]) (rest := []) ⟨hx, hb, hml, hown, hts⟩ (c_m_areFour l dC dI h cI n (m_sAd σ (((16 : Int32) * (tb_17 &&& 4095)) + (wh_4 - wh_4 / 16 * 16))) (m_ad (m_sAd σ (((16 : Int32) * (tb_17 &&& 4095)) + (wh_4 - wh_4 / 16 * 16)))) ) (cwV 1 hts gX1_X1_areFour rfl rfl rfl (by decide +kernel) ⟨Nat.le_of_ble_eq_true rfl, Nat.le_of_ble_eq_true rfl⟩) (m_preP hK hP) rfl rfl hl.1 rfl (lv_room (Nat.le_of_ble_eq_true rfl)) dX1_look_222 ⟨Nat.zero_le _, Nat.zero_le _⟩) (fun r er => ?_)
              subst er
              refine lv_if_ne (tgt := 231) hx hb dX1_look_225 (by decide) (fun c_18 => ?_) (fun c_18 => ?_)
              · refine lv_aload_n hx hb dX1_look_231 rfl (lv_at hl 3 rfl) ?_
                refine lv_aload_n hx hb dX1_look_232 rfl (lv_at hl 3 rfl) ?_
                refine lv_aload_n hx hb dX1_look_233 rfl (lv_at hl 3 rfl) ?_
                refine va_get (D := (dC, dI)) (ci := 1) (v := .int (m_ad (m_sAd σ (((16 : Int32) * (tb_17 &&& 4095)) + (wh_4 - wh_4 / 16 * 16))))) (C := RX1) (T := TX1) (N := 14) hx hb hts inbX1 hown hK hP 0 rfl rfl 13 (by decide) (hts _ bX1_13) (fun _ h9 => h9) rfl dX1_look_234 ?_
                refine vp_callSi (W.runV (C := RX1) (As := [.int (m_ad (m_sAd σ (((16 : Int32) * (tb_17 &&& 4095)) + (wh_4 - wh_4 / 16 * 16))))]) (rest := [.ref (h 0)]) ⟨hx, hb, hml, hown, hts⟩ (c_m_four l dC dI h cI n (m_sAd σ (((16 : Int32) * (tb_17 &&& 4095)) + (wh_4 - wh_4 / 16 * 16))) (m_ad (m_sAd σ (((16 : Int32) * (tb_17 &&& 4095)) + (wh_4 - wh_4 / 16 * 16)))) (m_af hn c_18)) (cwV 1 hts gX1_X1_four rfl rfl rfl (by decide +kernel) ⟨Nat.le_of_ble_eq_true rfl, Nat.le_of_ble_eq_true rfl⟩) (m_preP hK hP) rfl rfl hl.1 rfl (lv_room (Nat.le_of_ble_eq_true rfl)) dX1_look_237 ⟨Nat.zero_le _, Nat.zero_le _⟩) (fun r er => ?_)
                subst er
                refine va_put (D := (dC, dI)) (ci := 1) (v := .int (m_four n (m_sAd σ (((16 : Int32) * (tb_17 &&& 4095)) + (wh_4 - wh_4 / 16 * 16))) (m_ad (m_sAd σ (((16 : Int32) * (tb_17 &&& 4095)) + (wh_4 - wh_4 / 16 * 16)))))) (ty := .int) (C := RX1) (T := TX1) (N := 14) hx hb hts inbX1 tyX1 tyX1_ok nmX1 hown hK hP hD hS 0 rfl rfl 12 (by decide) (hts _ bX1_12) (fun _ h9 => h9) rfl (by decide +kernel) rfl rfl (Nat.le_of_ble_eq_true rfl) dX1_look_240 (fun H locs hP hD hS => ?_)
                have hP := m_pLk hP
                have hD := m_dLk hD
                refine lv_iconst (v := 0) hx hb dX1_look_243 (by decide) ?_
                exact W.iret (v := 0) hx hb hr (fun t ht hW => ⟨⟨0, (m_sLk (m_sAd σ (((16 : Int32) * (tb_17 &&& 4095)) + (wh_4 - wh_4 / 16 * 16))) (m_four n (m_sAd σ (((16 : Int32) * (tb_17 &&& 4095)) + (wh_4 - wh_4 / 16 * 16))) (m_ad (m_sAd σ (((16 : Int32) * (tb_17 &&& 4095)) + (wh_4 - wh_4 / 16 * 16)))))), rfl, (if_pos c_1).trans ((if_neg c_2).trans ((if_neg c_3).trans ((kv_eq ewh_4.symm).trans ((if_pos c_5).trans ((if_neg c_6).trans ((if_neg c_7).trans ((kv_eq etb_17.symm).trans ((if_neg c_18).trans rfl)))))))), by rw [ht]; exact hP, va_K.moved hW.alike hK, hD⟩, hS.F ht⟩) hS.2.2 dX1_look_244
              · refine lv_bipush (v := (-100)) hx hb dX1_look_228 (by decide) ?_
                exact W.iret (v := (-100)) hx hb hr (fun t ht hW => ⟨⟨(-100), (m_sAd σ (((16 : Int32) * (tb_17 &&& 4095)) + (wh_4 - wh_4 / 16 * 16))), rfl, (if_pos c_1).trans ((if_neg c_2).trans ((if_neg c_3).trans ((kv_eq ewh_4.symm).trans ((if_pos c_5).trans ((if_neg c_6).trans ((if_neg c_7).trans ((kv_eq etb_17.symm).trans ((if_pos c_18).trans rfl)))))))), by rw [ht]; exact hP, va_K.moved hW.alike hK, hD⟩, hS.F ht⟩) hS.2.2 dX1_look_230
          · refine lv_bipush (v := (-4)) hx hb dX1_look_113 (by decide) ?_
            exact W.iret (v := (-4)) hx hb hr (fun t ht hW => ⟨⟨(-4), σ, rfl, (if_pos c_1).trans ((if_neg c_2).trans ((if_neg c_3).trans ((kv_eq ewh_4.symm).trans ((if_pos c_5).trans ((if_pos c_6).trans rfl))))), by rw [ht]; exact hP, va_K.moved hW.alike hK, hD⟩, hS.F ht⟩) hS.2.2 dX1_look_115
      · refine lv_aload_n hx hb dX1_look_57 rfl (lv_at hl 1 rfl) ?_
        refine lv_aload_n hx hb dX1_look_58 rfl (lv_at hl 1 rfl) ?_
        refine va_get (D := (dC, dI)) (ci := 1) (v := .ref (h 2)) (C := RX1) (T := TX1) (N := 14) hx hb hts inbX1 hown hK hP 0 rfl rfl 2 (by decide) (hts _ bX1_2) (fun _ h9 => h9) rfl dX1_look_59 ?_
        refine lv_iconst (v := 2) hx hb dX1_look_62 (by decide) ?_
        refine va_iald hx hb hK hP 2 0 rfl rfl (vp_in_nI (n := 2) (by decide) (by decide)) dX1_look_63 ?_
        refine lv_iconst (v := 4) hx hb dX1_look_64 (by decide) ?_
        refine lv_iload_n hx hb dX1_look_65 rfl (lv_at hl 2 rfl) ?_
        refine vp_callSi (W.runS (As := [.int a]) (rest := [.int 4, .int (m_bas σ (2 : Int32).toNatClampNeg), .ref (h 0)]) ⟨hx, hb, hml, hown, hts⟩ (c_m_pageOf l a ) (va_cwS 1 hts gX1_X1_pageOf rfl rfl rfl (by decide +kernel) ⟨Nat.le_of_ble_eq_true rfl, Nat.le_of_ble_eq_true rfl⟩) (fs_pre) rfl rfl hl.1 rfl (lv_room (Nat.le_of_ble_eq_true rfl)) dX1_look_66 ⟨Nat.zero_le _, Nat.zero_le _⟩) (fun r er => ?_)
        subst er
        refine lv_imul hx hb dX1_look_69 ?_
        refine lv_iadd hx hb dX1_look_70 ?_
        refine va_put (D := (dC, dI)) (ci := 1) (v := .int ((m_bas σ (2 : Int32).toNatClampNeg) + ((4 : Int32) * (m_pageOf a)))) (ty := .int) (C := RX1) (T := TX1) (N := 14) hx hb hts inbX1 tyX1 tyX1_ok nmX1 hown hK hP hD hS 0 rfl rfl 13 (by decide) (hts _ bX1_13) (fun _ h9 => h9) rfl (by decide +kernel) rfl rfl (Nat.le_of_ble_eq_true rfl) dX1_look_71 (fun H locs hP hD hS => ?_)
        have hP := m_pAd hP
        have hD := m_dAd hD
        refine lv_goto (tgt := 217) hx hb dX1_look_74 (by decide) ?_
        refine lv_aload_n hx hb dX1_look_217 rfl (lv_at hl 1 rfl) ?_
        refine lv_aload_n hx hb dX1_look_218 rfl (lv_at hl 1 rfl) ?_
        refine va_get (D := (dC, dI)) (ci := 1) (v := .int (m_ad (m_sAd σ ((m_bas σ (2 : Int32).toNatClampNeg) + ((4 : Int32) * (m_pageOf a)))))) (C := RX1) (T := TX1) (N := 14) hx hb hts inbX1 hown hK hP 0 rfl rfl 13 (by decide) (hts _ bX1_13) (fun _ h9 => h9) rfl dX1_look_219 ?_
        refine vp_callSi (W.runV (C := RX1) (As := [.int (m_ad (m_sAd σ ((m_bas σ (2 : Int32).toNatClampNeg) + ((4 : Int32) * (m_pageOf a)))))]) (rest := []) ⟨hx, hb, hml, hown, hts⟩ (c_m_areFour l dC dI h cI n (m_sAd σ ((m_bas σ (2 : Int32).toNatClampNeg) + ((4 : Int32) * (m_pageOf a)))) (m_ad (m_sAd σ ((m_bas σ (2 : Int32).toNatClampNeg) + ((4 : Int32) * (m_pageOf a))))) ) (cwV 1 hts gX1_X1_areFour rfl rfl rfl (by decide +kernel) ⟨Nat.le_of_ble_eq_true rfl, Nat.le_of_ble_eq_true rfl⟩) (m_preP hK hP) rfl rfl hl.1 rfl (lv_room (Nat.le_of_ble_eq_true rfl)) dX1_look_222 ⟨Nat.zero_le _, Nat.zero_le _⟩) (fun r er => ?_)
        subst er
        refine lv_if_ne (tgt := 231) hx hb dX1_look_225 (by decide) (fun c_19 => ?_) (fun c_19 => ?_)
        · refine lv_aload_n hx hb dX1_look_231 rfl (lv_at hl 1 rfl) ?_
          refine lv_aload_n hx hb dX1_look_232 rfl (lv_at hl 1 rfl) ?_
          refine lv_aload_n hx hb dX1_look_233 rfl (lv_at hl 1 rfl) ?_
          refine va_get (D := (dC, dI)) (ci := 1) (v := .int (m_ad (m_sAd σ ((m_bas σ (2 : Int32).toNatClampNeg) + ((4 : Int32) * (m_pageOf a)))))) (C := RX1) (T := TX1) (N := 14) hx hb hts inbX1 hown hK hP 0 rfl rfl 13 (by decide) (hts _ bX1_13) (fun _ h9 => h9) rfl dX1_look_234 ?_
          refine vp_callSi (W.runV (C := RX1) (As := [.int (m_ad (m_sAd σ ((m_bas σ (2 : Int32).toNatClampNeg) + ((4 : Int32) * (m_pageOf a)))))]) (rest := [.ref (h 0)]) ⟨hx, hb, hml, hown, hts⟩ (c_m_four l dC dI h cI n (m_sAd σ ((m_bas σ (2 : Int32).toNatClampNeg) + ((4 : Int32) * (m_pageOf a)))) (m_ad (m_sAd σ ((m_bas σ (2 : Int32).toNatClampNeg) + ((4 : Int32) * (m_pageOf a))))) (m_af hn c_19)) (cwV 1 hts gX1_X1_four rfl rfl rfl (by decide +kernel) ⟨Nat.le_of_ble_eq_true rfl, Nat.le_of_ble_eq_true rfl⟩) (m_preP hK hP) rfl rfl hl.1 rfl (lv_room (Nat.le_of_ble_eq_true rfl)) dX1_look_237 ⟨Nat.zero_le _, Nat.zero_le _⟩) (fun r er => ?_)
          subst er
          refine va_put (D := (dC, dI)) (ci := 1) (v := .int (m_four n (m_sAd σ ((m_bas σ (2 : Int32).toNatClampNeg) + ((4 : Int32) * (m_pageOf a)))) (m_ad (m_sAd σ ((m_bas σ (2 : Int32).toNatClampNeg) + ((4 : Int32) * (m_pageOf a))))))) (ty := .int) (C := RX1) (T := TX1) (N := 14) hx hb hts inbX1 tyX1 tyX1_ok nmX1 hown hK hP hD hS 0 rfl rfl 12 (by decide) (hts _ bX1_12) (fun _ h9 => h9) rfl (by decide +kernel) rfl rfl (Nat.le_of_ble_eq_true rfl) dX1_look_240 (fun H locs hP hD hS => ?_)
          have hP := m_pLk hP
          have hD := m_dLk hD
          refine lv_iconst (v := 0) hx hb dX1_look_243 (by decide) ?_
          exact W.iret (v := 0) hx hb hr (fun t ht hW => ⟨⟨0, (m_sLk (m_sAd σ ((m_bas σ (2 : Int32).toNatClampNeg) + ((4 : Int32) * (m_pageOf a)))) (m_four n (m_sAd σ ((m_bas σ (2 : Int32).toNatClampNeg) + ((4 : Int32) * (m_pageOf a)))) (m_ad (m_sAd σ ((m_bas σ (2 : Int32).toNatClampNeg) + ((4 : Int32) * (m_pageOf a))))))), rfl, (if_pos c_1).trans ((if_neg c_2).trans ((if_pos c_3).trans ((if_neg c_19).trans rfl))), by rw [ht]; exact hP, va_K.moved hW.alike hK, hD⟩, hS.F ht⟩) hS.2.2 dX1_look_244
        · refine lv_bipush (v := (-100)) hx hb dX1_look_228 (by decide) ?_
          exact W.iret (v := (-100)) hx hb hr (fun t ht hW => ⟨⟨(-100), (m_sAd σ ((m_bas σ (2 : Int32).toNatClampNeg) + ((4 : Int32) * (m_pageOf a)))), rfl, (if_pos c_1).trans ((if_neg c_2).trans ((if_pos c_3).trans ((if_pos c_19).trans rfl))), by rw [ht]; exact hP, va_K.moved hW.alike hK, hD⟩, hS.F ht⟩) hS.2.2 dX1_look_230
    · refine lv_bipush (v := (-2)) hx hb dX1_look_44 (by decide) ?_
      exact W.iret (v := (-2)) hx hb hr (fun t ht hW => ⟨⟨(-2), σ, rfl, (if_pos c_1).trans ((if_pos c_2).trans rfl), by rw [ht]; exact hP, va_K.moved hW.alike hK, hD⟩, hS.F ht⟩) hS.2.2 dX1_look_46
  · refine lv_aload_n hx hb dX1_look_8 rfl (lv_at hl 0 rfl) ?_
    refine lv_aload_n hx hb dX1_look_9 rfl (lv_at hl 0 rfl) ?_
    refine va_get (D := (dC, dI)) (ci := 1) (v := .ref (h 5)) (C := RX1) (T := TX1) (N := 14) hx hb hts inbX1 hown hK hP 0 rfl rfl 6 (by decide) (hts _ bX1_6) (fun _ h9 => h9) rfl dX1_look_10 ?_
    refine lv_iload_n hx hb dX1_look_13 rfl (lv_at hl 1 rfl) ?_
    refine vp_callSi (W.runS (As := [.int a]) (rest := [.ref (h 5), .ref (h 0)]) ⟨hx, hb, hml, hown, hts⟩ (c_m_slot l a ) (va_cwS 1 hts gX1_X1_slot rfl rfl rfl (by decide +kernel) ⟨Nat.le_of_ble_eq_true rfl, Nat.le_of_ble_eq_true rfl⟩) (fs_pre) rfl rfl hl.1 rfl (lv_room (Nat.le_of_ble_eq_true rfl)) dX1_look_14 ⟨Nat.zero_le _, Nat.zero_le _⟩) (fun r er => ?_)
    subst er
    refine va_iald hx hb hK hP 5 0 rfl rfl (m_slot_in _) dX1_look_17 ?_
    refine va_put (D := (dC, dI)) (ci := 1) (v := .int (m_en σ ((m_slot a)).toNatClampNeg)) (ty := .int) (C := RX1) (T := TX1) (N := 14) hx hb hts inbX1 tyX1 tyX1_ok nmX1 hown hK hP hD hS 0 rfl rfl 12 (by decide) (hts _ bX1_12) (fun _ h9 => h9) rfl (by decide +kernel) rfl rfl (Nat.le_of_ble_eq_true rfl) dX1_look_18 (fun H locs hP hD hS => ?_)
    have hP := m_pLk hP
    have hD := m_dLk hD
    refine lv_aload_n hx hb dX1_look_21 rfl (lv_at hl 0 rfl) ?_
    refine lv_aload_n hx hb dX1_look_22 rfl (lv_at hl 0 rfl) ?_
    refine va_get (D := (dC, dI)) (ci := 1) (v := .ref (h 6)) (C := RX1) (T := TX1) (N := 14) hx hb hts inbX1 hown hK hP 0 rfl rfl 7 (by decide) (hts _ bX1_7) (fun _ h9 => h9) rfl dX1_look_23 ?_
    refine lv_iload_n hx hb dX1_look_26 rfl (lv_at hl 1 rfl) ?_
    refine vp_callSi (W.runS (As := [.int a]) (rest := [.ref (h 6), .ref (h 0)]) ⟨hx, hb, hml, hown, hts⟩ (c_m_slot l a ) (va_cwS 1 hts gX1_X1_slot rfl rfl rfl (by decide +kernel) ⟨Nat.le_of_ble_eq_true rfl, Nat.le_of_ble_eq_true rfl⟩) (fs_pre) rfl rfl hl.1 rfl (lv_room (Nat.le_of_ble_eq_true rfl)) dX1_look_27 ⟨Nat.zero_le _, Nat.zero_le _⟩) (fun r er => ?_)
    subst er
    refine va_iald hx hb hK hP 6 0 rfl rfl (m_slot_in _) dX1_look_30 ?_
    refine va_put (D := (dC, dI)) (ci := 1) (v := .int (m_pc (m_sLk σ (m_en σ ((m_slot a)).toNatClampNeg)) ((m_slot a)).toNatClampNeg)) (ty := .int) (C := RX1) (T := TX1) (N := 14) hx hb hts inbX1 tyX1 tyX1_ok nmX1 hown hK hP hD hS 0 rfl rfl 13 (by decide) (hts _ bX1_13) (fun _ h9 => h9) rfl (by decide +kernel) rfl rfl (Nat.le_of_ble_eq_true rfl) dX1_look_31 (fun H locs hP hD hS => ?_)
    have hP := m_pAd hP
    have hD := m_dAd hD
    refine lv_iconst (v := 0) hx hb dX1_look_34 (by decide) ?_
    exact W.iret (v := 0) hx hb hr (fun t ht hW => ⟨⟨0, (m_sAd (m_sLk σ (m_en σ ((m_slot a)).toNatClampNeg)) (m_pc (m_sLk σ (m_en σ ((m_slot a)).toNatClampNeg)) ((m_slot a)).toNatClampNeg)), rfl, (if_neg c_1).trans rfl, by rw [ht]; exact hP, va_K.moved hW.alike hK, hD⟩, hS.F ht⟩) hS.2.2 dX1_look_35
