set_option maxHeartbeats 4000000 in
set_option maxRecDepth 100000 in
theorem c_m_translate (l : Launch) (dC : Nat → ClassId) (dI : Nat → Nat → Nat) (h : Nat → Nat) (cI : ClassId) (n : Nat) (sz : Nat) (σ : MS) (a : Int32) (md : Int32) (b : Int32) (kp : Int32) (hn : n ≤ 2048) (hI : m_Inv n σ) (ha : ∃ K : Nat, K < 65536 ∧ a = nI K) : Met l yX1_translate wsX1_translate ({ frames := 4, cells := 0, slots := 0, locals := 89 }) (va_Pc [.ref (h 0), .int a, .int md, .int b, .int kp] (m_BM dC dI h cI n sz σ)) (q_m_translate dC dI h cI n σ a md b kp (va_A (m_ws h cI n σ) sz)) 0 0 (va_A (m_ws h cI n σ) sz) := by
  refine Met.ofW (cc := cX1_translate) (maxL := 7) (ret := (some .int)) (by decide) rfl ?_
  intro p e s m args below meth c s₁ B hml hv
  obtain ⟨rfl, hsz, hP, hK, hD0⟩ := hv
  have hx := B.exec
  have hb := B.bytes
  have hr := B.returns
  have hts : ∀ w ∈ bX1, w.before _ s = true := fun w h => atoms_spec (ws := wsX1_translate) B.pre w (List.mem_cons_of_mem _ h)
  have hown : s.vm.findClass RX1 = some m.cls := findClass_of_methodNamed B.named
  have hlocks := B.notSynchronized
  subst hsz
  have hD := hD0.self (sz := s.heap.size)
  generalize hAe : va_A (m_ws h cI n σ) s.heap.size = A at hD ⊢
  have hA : ∀ q : Nat, s.heap.size ≤ q → A q := fun q h => by rw [← hAe]; exact Or.inr h
  have hS : va_S A s.heap s.heap [] := va_S.rf
  have hP : va_P (dC, dI) vwCl (m_ws h cI n σ) s.heap := hP
  have hl := lv_entry ([.ref (h 0), .int a, .int md, .int b, .int kp]) (n := 7) (Nat.le_of_ble_eq_true rfl)
  rw [lg_entry_eq]
  generalize (lg_sl ([.ref (h 0), .int a, .int md, .int b, .int kp]) ++ List.replicate (7 - (lg_sl ([.ref (h 0), .int a, .int md, .int b, .int kp])).length) Slot.unset).toArray = ls at hl ⊢
  have hl : lv_has ls 7 [(0, .ref (h 0)), (1, .int a), (2, .int md), (3, .int b), (4, .int kp)] := hl
  refine lv_aload_n hx hb dX1_translate_0 rfl (lv_at hl 0 rfl) ?_
  refine va_get (D := (dC, dI)) (ci := 1) (v := .int (m_on σ)) (C := RX1) (T := TX1) (N := 14) hx hb hts inbX1 hown hK hP 0 rfl rfl 4 (by decide) (hts _ bX1_4) (fun _ h9 => h9) rfl dX1_translate_1 ?_
  refine lv_if_ne (tgt := 9) hx hb dX1_translate_4 (by decide) (fun c_1 => ?_) (fun c_1 => ?_)
  · refine lv_iload_n hx hb dX1_translate_9 rfl (lv_at hl 3 rfl) ?_
    refine lv_if_eq (tgt := 17) hx hb dX1_translate_10 (by decide) (fun c_2 => ?_) (fun c_2 => ?_)
    · refine lv_iconst (v := 0) hx hb dX1_translate_17 (by decide) ?_
      refine lv_istore (lv' := [(5, .int 0), (0, .ref (h 0)), (1, .int a), (2, .int md), (3, .int b), (4, .int kp)]) hx hb dX1_translate_18 hl (by decide) rfl (fun ls hl => ?_)
      refine lv_aload_n hx hb dX1_translate_20 rfl (lv_at hl 1 rfl) ?_
      refine lv_iload_n hx hb dX1_translate_21 rfl (lv_at hl 2 rfl) ?_
      refine lv_iload hx hb dX1_translate_22 (lv_at hl 5 rfl) ?_
      refine m_calli (f := (m_look n σ a kp)) (va_runV (C := RX1) (As := [.int a, .int kp]) (rest := []) ⟨hx, hb, hml, hown, hts⟩ (c_m_look l dC dI h cI n _ σ a kp hn) (cwV 2 hts gX1_X1_look rfl rfl rfl (by decide +kernel) ⟨Nat.le_of_ble_eq_true rfl, Nat.le_of_ble_eq_true rfl⟩) (m_preM hK hP hD) rfl rfl hl.1 rfl (lv_room (Nat.le_of_ble_eq_true rfl)) dX1_translate_24 ⟨Nat.zero_le _, Nat.zero_le _⟩) hP hD hS hA (fun r_5 t_3 H locs e_4 hP hD hS => ?_)
      refine lv_istore (lv' := [(6, .int r_5), (5, .int 0), (0, .ref (h 0)), (1, .int a), (2, .int md), (3, .int b), (4, .int kp)]) hx hb dX1_translate_27 hl (by decide) rfl (fun ls hl => ?_)
      refine lv_iload hx hb dX1_translate_29 (lv_at hl 0 rfl) ?_
      refine lv_if_ge (tgt := 52) hx hb dX1_translate_31 (by decide) (fun c_6 => ?_) (fun c_6 => ?_)
      · refine lv_aload_n hx hb dX1_translate_52 rfl (lv_at hl 2 rfl) ?_
        refine lv_iload_n hx hb dX1_translate_53 rfl (lv_at hl 4 rfl) ?_
        refine lv_iload_n hx hb dX1_translate_54 rfl (lv_at hl 5 rfl) ?_
        refine vp_callSi (W.runV (C := RX1) (As := [.int md, .int b]) (rest := []) ⟨hx, hb, hml, hown, hts⟩ (c_m_isRight l dC dI h cI n t_3 md b ) (cwV 2 hts gX1_X1_isRight rfl rfl rfl (by decide +kernel) ⟨Nat.le_of_ble_eq_true rfl, Nat.le_of_ble_eq_true rfl⟩) (m_preP hK hP) rfl rfl hl.1 rfl (lv_room (Nat.le_of_ble_eq_true rfl)) dX1_translate_55 ⟨Nat.zero_le _, Nat.zero_le _⟩) (fun r er => ?_)
        subst er
        refine lv_if_ne (tgt := 66) hx hb dX1_translate_58 (by decide) (fun c_7 => ?_) (fun c_7 => ?_)
        · refine lv_aload_n hx hb dX1_translate_66 rfl (lv_at hl 2 rfl) ?_
          refine va_get (D := (dC, dI)) (ci := 1) (v := .int (m_lk t_3)) (C := RX1) (T := TX1) (N := 14) hx hb hts inbX1 hown hK hP 0 rfl rfl 12 (by decide) (hts _ bX1_12) (fun _ h9 => h9) rfl dX1_translate_67 ?_
          refine lv_if_lt (tgt := 79) hx hb dX1_translate_70 (by decide) (fun c_8 => ?_) (fun c_8 => ?_)
          · refine lv_iload hx hb dX1_translate_79 (lv_at hl 6 rfl) ?_
            refine lv_if_eq (tgt := 130) hx hb dX1_translate_81 (by decide) (fun c_9 => ?_) (fun c_9 => ?_)
            · refine lv_iload hx hb dX1_translate_130 (lv_at hl 6 rfl) ?_
              refine lv_if_eq (tgt := 148) hx hb dX1_translate_132 (by decide) (fun _ => ?_) (fun c_10 => absurd c_9 c_10)
              refine lv_bipush (v := 16) hx hb dX1_translate_148 (by decide) ?_
              refine lv_aload_n hx hb dX1_translate_150 rfl (lv_at hl 2 rfl) ?_
              refine va_get (D := (dC, dI)) (ci := 1) (v := .int (m_lk t_3)) (C := RX1) (T := TX1) (N := 14) hx hb hts inbX1 hown hK hP 0 rfl rfl 12 (by decide) (hts _ bX1_12) (fun _ h9 => h9) rfl dX1_translate_151 ?_
              refine lv_sipush (v := 4095) hx hb dX1_translate_154 (by decide) ?_
              refine lv_iand hx hb dX1_translate_157 ?_
              refine lv_imul hx hb dX1_translate_158 ?_
              refine lv_iload_n hx hb dX1_translate_159 rfl (lv_at hl 3 rfl) ?_
              refine lv_bipush (v := 16) hx hb dX1_translate_160 (by decide) ?_
              refine lv_irem hx hb dX1_translate_162 (by decide) ?_
              refine lv_iadd hx hb dX1_translate_163 ?_
              exact W.iret (v := (((16 : Int32) * ((m_lk t_3) &&& 4095)) + (a - a / 16 * 16))) hx hb hr (fun t ht hW => ⟨⟨(((16 : Int32) * ((m_lk t_3) &&& 4095)) + (a - a / 16 * 16)), t_3, rfl, (if_neg c_1).trans ((if_pos c_2).trans ((kb_eq e_4).trans ((if_pos c_6).trans ((if_neg c_7).trans ((if_pos c_8).trans ((if_pos c_9).trans rfl)))))), by rw [ht]; exact hP, va_K.moved hW.alike hK, hD⟩, hS.F ht⟩) hS.2.2 dX1_translate_164
            · refine lv_iload_n hx hb dX1_translate_84 rfl (lv_at hl 5 rfl) ?_
              refine lv_if_eq (tgt := 130) hx hb dX1_translate_85 (by decide) (fun _ => ?_) (fun c_11 => absurd c_2 c_11)
              refine lv_iload hx hb dX1_translate_130 (lv_at hl 6 rfl) ?_
              refine lv_if_eq (tgt := 148) hx hb dX1_translate_132 (by decide) (fun c_12 => absurd c_12 c_9) (fun _ => ?_)
              refine lv_aload_n hx hb dX1_translate_135 rfl (lv_at hl 2 rfl) ?_
              refine lv_iload_n hx hb dX1_translate_136 rfl (lv_at hl 3 rfl) ?_
              refine lv_aload_n hx hb dX1_translate_137 rfl (lv_at hl 2 rfl) ?_
              refine va_get (D := (dC, dI)) (ci := 1) (v := .int (m_lk t_3)) (C := RX1) (T := TX1) (N := 14) hx hb hts inbX1 hown hK hP 0 rfl rfl 12 (by decide) (hts _ bX1_12) (fun _ h9 => h9) rfl dX1_translate_138 ?_
              refine lv_aload_n hx hb dX1_translate_141 rfl (lv_at hl 2 rfl) ?_
              refine va_get (D := (dC, dI)) (ci := 1) (v := .int (m_ad t_3)) (C := RX1) (T := TX1) (N := 14) hx hb hts inbX1 hown hK hP 0 rfl rfl 13 (by decide) (hts _ bX1_13) (fun _ h9 => h9) rfl dX1_translate_142 ?_
              refine m_callv (f := (m_keeps n t_3 a (m_lk t_3) (m_ad t_3))) (va_runV (C := RX1) (As := [.int a, .int (m_lk t_3), .int (m_ad t_3)]) (rest := []) ⟨hx, hb, hml, hown, hts⟩ (c_m_keeps l dC dI h cI n _ t_3 a (m_lk t_3) (m_ad t_3) ) (cwV 3 hts gX1_X1_keeps rfl rfl rfl (by decide +kernel) ⟨Nat.le_of_ble_eq_true rfl, Nat.le_of_ble_eq_true rfl⟩) (m_preM hK hP hD) rfl rfl hl.1 rfl (lv_room (Nat.le_of_ble_eq_true rfl)) dX1_translate_145 ⟨Nat.zero_le _, Nat.zero_le _⟩) hP hD hS hA (fun t_13 H locs e_14 hP hD hS => ?_)
              refine lv_bipush (v := 16) hx hb dX1_translate_148 (by decide) ?_
              refine lv_aload_n hx hb dX1_translate_150 rfl (lv_at hl 2 rfl) ?_
              refine va_get (D := (dC, dI)) (ci := 1) (v := .int (m_lk t_13)) (C := RX1) (T := TX1) (N := 14) hx hb hts inbX1 hown hK hP 0 rfl rfl 12 (by decide) (hts _ bX1_12) (fun _ h9 => h9) rfl dX1_translate_151 ?_
              refine lv_sipush (v := 4095) hx hb dX1_translate_154 (by decide) ?_
              refine lv_iand hx hb dX1_translate_157 ?_
              refine lv_imul hx hb dX1_translate_158 ?_
              refine lv_iload_n hx hb dX1_translate_159 rfl (lv_at hl 3 rfl) ?_
              refine lv_bipush (v := 16) hx hb dX1_translate_160 (by decide) ?_
              refine lv_irem hx hb dX1_translate_162 (by decide) ?_
              refine lv_iadd hx hb dX1_translate_163 ?_
              exact W.iret (v := (((16 : Int32) * ((m_lk t_13) &&& 4095)) + (a - a / 16 * 16))) hx hb hr (fun t ht hW => ⟨⟨(((16 : Int32) * ((m_lk t_13) &&& 4095)) + (a - a / 16 * 16)), t_13, rfl, (if_neg c_1).trans ((if_pos c_2).trans ((kb_eq e_4).trans ((if_pos c_6).trans ((if_neg c_7).trans ((if_pos c_8).trans ((if_neg c_9).trans ((kv_eq e_14).trans rfl))))))), by rw [ht]; exact hP, va_K.moved hW.alike hK, hD⟩, hS.F ht⟩) hS.2.2 dX1_translate_164
          · refine lv_bipush (v := (-11)) hx hb dX1_translate_73 (by decide) ?_
            refine lv_iload hx hb dX1_translate_75 (lv_at hl 1 rfl) ?_
            refine lv_isub hx hb dX1_translate_77 ?_
            exact W.iret (v := (((-11) : Int32) - 0)) hx hb hr (fun t ht hW => ⟨⟨(((-11) : Int32) - 0), t_3, rfl, (if_neg c_1).trans ((if_pos c_2).trans ((kb_eq e_4).trans ((if_pos c_6).trans ((if_neg c_7).trans ((if_neg c_8).trans rfl))))), by rw [ht]; exact hP, va_K.moved hW.alike hK, hD⟩, hS.F ht⟩) hS.2.2 dX1_translate_78
        · refine lv_iconst (v := (-1)) hx hb dX1_translate_61 (by decide) ?_
          refine lv_iload hx hb dX1_translate_62 (lv_at hl 1 rfl) ?_
          refine lv_isub hx hb dX1_translate_64 ?_
          exact W.iret (v := (((-1) : Int32) - 0)) hx hb hr (fun t ht hW => ⟨⟨(((-1) : Int32) - 0), t_3, rfl, (if_neg c_1).trans ((if_pos c_2).trans ((kb_eq e_4).trans ((if_pos c_6).trans ((if_pos c_7).trans rfl)))), by rw [ht]; exact hP, va_K.moved hW.alike hK, hD⟩, hS.F ht⟩) hS.2.2 dX1_translate_65
      · refine lv_iload hx hb dX1_translate_34 (lv_at hl 0 rfl) ?_
        refine lv_bipush (v := (-100)) hx hb dX1_translate_36 (by decide) ?_
        refine lv_icmp_ne (tgt := 46) hx hb dX1_translate_38 (by decide) (fun c_15 => ?_) (fun c_15 => ?_)
        · refine lv_iload hx hb dX1_translate_46 (lv_at hl 0 rfl) ?_
          refine lv_iload hx hb dX1_translate_48 (lv_at hl 1 rfl) ?_
          refine lv_isub hx hb dX1_translate_50 ?_
          exact W.iret (v := (r_5 - 0)) hx hb hr (fun t ht hW => ⟨⟨(r_5 - 0), t_3, rfl, (if_neg c_1).trans ((if_pos c_2).trans ((kb_eq e_4).trans ((if_neg c_6).trans ((if_neg c_15).trans rfl)))), by rw [ht]; exact hP, va_K.moved hW.alike hK, hD⟩, hS.F ht⟩) hS.2.2 dX1_translate_51
        · refine lv_bipush (v := (-100)) hx hb dX1_translate_41 (by decide) ?_
          refine lv_goto (tgt := 51) hx hb dX1_translate_43 (by decide) ?_
          exact W.iret (v := (-100)) hx hb hr (fun t ht hW => ⟨⟨(-100), t_3, rfl, (if_neg c_1).trans ((if_pos c_2).trans ((kb_eq e_4).trans ((if_neg c_6).trans ((if_pos c_15).trans rfl)))), by rw [ht]; exact hP, va_K.moved hW.alike hK, hD⟩, hS.F ht⟩) hS.2.2 dX1_translate_51
    · refine lv_iconst (v := 4) hx hb dX1_translate_13 (by decide) ?_
      refine lv_goto (tgt := 18) hx hb dX1_translate_14 (by decide) ?_
      refine lv_istore (lv' := [(5, .int 4), (0, .ref (h 0)), (1, .int a), (2, .int md), (3, .int b), (4, .int kp)]) hx hb dX1_translate_18 hl (by decide) rfl (fun ls hl => ?_)
      refine lv_aload_n hx hb dX1_translate_20 rfl (lv_at hl 1 rfl) ?_
      refine lv_iload_n hx hb dX1_translate_21 rfl (lv_at hl 2 rfl) ?_
      refine lv_iload hx hb dX1_translate_22 (lv_at hl 5 rfl) ?_
      refine m_calli (f := (m_look n σ a kp)) (va_runV (C := RX1) (As := [.int a, .int kp]) (rest := []) ⟨hx, hb, hml, hown, hts⟩ (c_m_look l dC dI h cI n _ σ a kp hn) (cwV 2 hts gX1_X1_look rfl rfl rfl (by decide +kernel) ⟨Nat.le_of_ble_eq_true rfl, Nat.le_of_ble_eq_true rfl⟩) (m_preM hK hP hD) rfl rfl hl.1 rfl (lv_room (Nat.le_of_ble_eq_true rfl)) dX1_translate_24 ⟨Nat.zero_le _, Nat.zero_le _⟩) hP hD hS hA (fun r_18 t_16 H locs e_17 hP hD hS => ?_)
      refine lv_istore (lv' := [(6, .int r_18), (5, .int 4), (0, .ref (h 0)), (1, .int a), (2, .int md), (3, .int b), (4, .int kp)]) hx hb dX1_translate_27 hl (by decide) rfl (fun ls hl => ?_)
      refine lv_iload hx hb dX1_translate_29 (lv_at hl 0 rfl) ?_
      refine lv_if_ge (tgt := 52) hx hb dX1_translate_31 (by decide) (fun c_19 => ?_) (fun c_19 => ?_)
      · refine lv_aload_n hx hb dX1_translate_52 rfl (lv_at hl 2 rfl) ?_
        refine lv_iload_n hx hb dX1_translate_53 rfl (lv_at hl 4 rfl) ?_
        refine lv_iload_n hx hb dX1_translate_54 rfl (lv_at hl 5 rfl) ?_
        refine vp_callSi (W.runV (C := RX1) (As := [.int md, .int b]) (rest := []) ⟨hx, hb, hml, hown, hts⟩ (c_m_isRight l dC dI h cI n t_16 md b ) (cwV 2 hts gX1_X1_isRight rfl rfl rfl (by decide +kernel) ⟨Nat.le_of_ble_eq_true rfl, Nat.le_of_ble_eq_true rfl⟩) (m_preP hK hP) rfl rfl hl.1 rfl (lv_room (Nat.le_of_ble_eq_true rfl)) dX1_translate_55 ⟨Nat.zero_le _, Nat.zero_le _⟩) (fun r er => ?_)
        subst er
        refine lv_if_ne (tgt := 66) hx hb dX1_translate_58 (by decide) (fun c_20 => ?_) (fun c_20 => ?_)
        · refine lv_aload_n hx hb dX1_translate_66 rfl (lv_at hl 2 rfl) ?_
          refine va_get (D := (dC, dI)) (ci := 1) (v := .int (m_lk t_16)) (C := RX1) (T := TX1) (N := 14) hx hb hts inbX1 hown hK hP 0 rfl rfl 12 (by decide) (hts _ bX1_12) (fun _ h9 => h9) rfl dX1_translate_67 ?_
          refine lv_if_lt (tgt := 79) hx hb dX1_translate_70 (by decide) (fun c_21 => ?_) (fun c_21 => ?_)
          · refine lv_iload hx hb dX1_translate_79 (lv_at hl 6 rfl) ?_
            refine lv_if_eq (tgt := 130) hx hb dX1_translate_81 (by decide) (fun c_22 => ?_) (fun c_22 => ?_)
            · refine lv_iload hx hb dX1_translate_130 (lv_at hl 6 rfl) ?_
              refine lv_if_eq (tgt := 148) hx hb dX1_translate_132 (by decide) (fun _ => ?_) (fun c_23 => absurd c_22 c_23)
              refine lv_bipush (v := 16) hx hb dX1_translate_148 (by decide) ?_
              refine lv_aload_n hx hb dX1_translate_150 rfl (lv_at hl 2 rfl) ?_
              refine va_get (D := (dC, dI)) (ci := 1) (v := .int (m_lk t_16)) (C := RX1) (T := TX1) (N := 14) hx hb hts inbX1 hown hK hP 0 rfl rfl 12 (by decide) (hts _ bX1_12) (fun _ h9 => h9) rfl dX1_translate_151 ?_
              refine lv_sipush (v := 4095) hx hb dX1_translate_154 (by decide) ?_
              refine lv_iand hx hb dX1_translate_157 ?_
              refine lv_imul hx hb dX1_translate_158 ?_
              refine lv_iload_n hx hb dX1_translate_159 rfl (lv_at hl 3 rfl) ?_
              refine lv_bipush (v := 16) hx hb dX1_translate_160 (by decide) ?_
              refine lv_irem hx hb dX1_translate_162 (by decide) ?_
              refine lv_iadd hx hb dX1_translate_163 ?_
              exact W.iret (v := (((16 : Int32) * ((m_lk t_16) &&& 4095)) + (a - a / 16 * 16))) hx hb hr (fun t ht hW => ⟨⟨(((16 : Int32) * ((m_lk t_16) &&& 4095)) + (a - a / 16 * 16)), t_16, rfl, (if_neg c_1).trans ((if_neg c_2).trans ((kb_eq e_17).trans ((if_pos c_19).trans ((if_neg c_20).trans ((if_pos c_21).trans ((if_pos c_22).trans rfl)))))), by rw [ht]; exact hP, va_K.moved hW.alike hK, hD⟩, hS.F ht⟩) hS.2.2 dX1_translate_164
            · refine lv_iload_n hx hb dX1_translate_84 rfl (lv_at hl 5 rfl) ?_
              refine lv_if_eq (tgt := 130) hx hb dX1_translate_85 (by decide) (fun c_24 => absurd c_24 c_2) (fun _ => ?_)
              refine lv_aload_n hx hb dX1_translate_88 rfl (lv_at hl 2 rfl) ?_
              refine va_get (D := (dC, dI)) (ci := 1) (v := .int (m_lk t_16)) (C := RX1) (T := TX1) (N := 14) hx hb hts inbX1 hown hK hP 0 rfl rfl 12 (by decide) (hts _ bX1_12) (fun _ h9 => h9) rfl dX1_translate_89 ?_
              refine lv_bipush (v := 26) hx hb dX1_translate_92 (by decide) ?_
              refine lv_ishr hx hb dX1_translate_94 ?_
              refine lv_iconst (v := 1) hx hb dX1_translate_95 (by decide) ?_
              refine lv_iand hx hb dX1_translate_96 ?_
              refine lv_if_ne (tgt := 130) hx hb dX1_translate_97 (by decide) (fun c_25 => ?_) (fun c_25 => ?_)
              · refine lv_iload hx hb dX1_translate_130 (lv_at hl 6 rfl) ?_
                refine lv_if_eq (tgt := 148) hx hb dX1_translate_132 (by decide) (fun c_26 => absurd c_26 c_22) (fun _ => ?_)
                refine lv_aload_n hx hb dX1_translate_135 rfl (lv_at hl 2 rfl) ?_
                refine lv_iload_n hx hb dX1_translate_136 rfl (lv_at hl 3 rfl) ?_
                refine lv_aload_n hx hb dX1_translate_137 rfl (lv_at hl 2 rfl) ?_
                refine va_get (D := (dC, dI)) (ci := 1) (v := .int (m_lk t_16)) (C := RX1) (T := TX1) (N := 14) hx hb hts inbX1 hown hK hP 0 rfl rfl 12 (by decide) (hts _ bX1_12) (fun _ h9 => h9) rfl dX1_translate_138 ?_
                refine lv_aload_n hx hb dX1_translate_141 rfl (lv_at hl 2 rfl) ?_
                refine va_get (D := (dC, dI)) (ci := 1) (v := .int (m_ad t_16)) (C := RX1) (T := TX1) (N := 14) hx hb hts inbX1 hown hK hP 0 rfl rfl 13 (by decide) (hts _ bX1_13) (fun _ h9 => h9) rfl dX1_translate_142 ?_
                refine m_callv (f := (m_keeps n t_16 a (m_lk t_16) (m_ad t_16))) (va_runV (C := RX1) (As := [.int a, .int (m_lk t_16), .int (m_ad t_16)]) (rest := []) ⟨hx, hb, hml, hown, hts⟩ (c_m_keeps l dC dI h cI n _ t_16 a (m_lk t_16) (m_ad t_16) ) (cwV 3 hts gX1_X1_keeps rfl rfl rfl (by decide +kernel) ⟨Nat.le_of_ble_eq_true rfl, Nat.le_of_ble_eq_true rfl⟩) (m_preM hK hP hD) rfl rfl hl.1 rfl (lv_room (Nat.le_of_ble_eq_true rfl)) dX1_translate_145 ⟨Nat.zero_le _, Nat.zero_le _⟩) hP hD hS hA (fun t_27 H locs e_28 hP hD hS => ?_)
                refine lv_bipush (v := 16) hx hb dX1_translate_148 (by decide) ?_
                refine lv_aload_n hx hb dX1_translate_150 rfl (lv_at hl 2 rfl) ?_
                refine va_get (D := (dC, dI)) (ci := 1) (v := .int (m_lk t_27)) (C := RX1) (T := TX1) (N := 14) hx hb hts inbX1 hown hK hP 0 rfl rfl 12 (by decide) (hts _ bX1_12) (fun _ h9 => h9) rfl dX1_translate_151 ?_
                refine lv_sipush (v := 4095) hx hb dX1_translate_154 (by decide) ?_
                refine lv_iand hx hb dX1_translate_157 ?_
                refine lv_imul hx hb dX1_translate_158 ?_
                refine lv_iload_n hx hb dX1_translate_159 rfl (lv_at hl 3 rfl) ?_
                refine lv_bipush (v := 16) hx hb dX1_translate_160 (by decide) ?_
                refine lv_irem hx hb dX1_translate_162 (by decide) ?_
                refine lv_iadd hx hb dX1_translate_163 ?_
                exact W.iret (v := (((16 : Int32) * ((m_lk t_27) &&& 4095)) + (a - a / 16 * 16))) hx hb hr (fun t ht hW => ⟨⟨(((16 : Int32) * ((m_lk t_27) &&& 4095)) + (a - a / 16 * 16)), t_27, rfl, (if_neg c_1).trans ((if_neg c_2).trans ((kb_eq e_17).trans ((if_pos c_19).trans ((if_neg c_20).trans ((if_pos c_21).trans ((if_neg c_22).trans ((if_neg c_25).trans ((kv_eq e_28).trans rfl)))))))), by rw [ht]; exact hP, va_K.moved hW.alike hK, hD⟩, hS.F ht⟩) hS.2.2 dX1_translate_164
              · refine lv_aload_n hx hb dX1_translate_100 rfl (lv_at hl 2 rfl) ?_
                refine lv_aload_n hx hb dX1_translate_101 rfl (lv_at hl 2 rfl) ?_
                refine va_get (D := (dC, dI)) (ci := 1) (v := .int (m_lk t_16)) (C := RX1) (T := TX1) (N := 14) hx hb hts inbX1 hown hK hP 0 rfl rfl 12 (by decide) (hts _ bX1_12) (fun _ h9 => h9) rfl dX1_translate_102 ?_
                refine lv_ldc (v := 67108864) hx hb hown (hts _ bX1_19) dX1_translate_105 ?_
                refine lv_ior hx hb dX1_translate_107 ?_
                refine va_put (D := (dC, dI)) (ci := 1) (v := .int ((m_lk t_16) ||| 67108864)) (ty := .int) (C := RX1) (T := TX1) (N := 14) hx hb hts inbX1 tyX1 tyX1_ok nmX1 hown hK hP hD hS 0 rfl rfl 12 (by decide) (hts _ bX1_12) (fun _ h9 => h9) rfl (by decide +kernel) rfl rfl (Nat.le_of_ble_eq_true rfl) dX1_translate_108 (fun H locs hP hD hS => ?_)
                have hP := m_pLk hP
                have hD := m_dLk hD
                refine lv_aload_n hx hb dX1_translate_111 rfl (lv_at hl 2 rfl) ?_
                refine lv_aload_n hx hb dX1_translate_112 rfl (lv_at hl 2 rfl) ?_
                refine va_get (D := (dC, dI)) (ci := 1) (v := .int (m_ad (m_sLk t_16 ((m_lk t_16) ||| 67108864)))) (C := RX1) (T := TX1) (N := 14) hx hb hts inbX1 hown hK hP 0 rfl rfl 13 (by decide) (hts _ bX1_13) (fun _ h9 => h9) rfl dX1_translate_113 ?_
                refine lv_aload_n hx hb dX1_translate_116 rfl (lv_at hl 2 rfl) ?_
                refine lv_aload_n hx hb dX1_translate_117 rfl (lv_at hl 2 rfl) ?_
                refine va_get (D := (dC, dI)) (ci := 1) (v := .int (m_ad (m_sLk t_16 ((m_lk t_16) ||| 67108864)))) (C := RX1) (T := TX1) (N := 14) hx hb hts inbX1 hown hK hP 0 rfl rfl 13 (by decide) (hts _ bX1_13) (fun _ h9 => h9) rfl dX1_translate_118 ?_
                refine vp_callSi (W.runV (C := RX1) (As := [.int (m_ad (m_sLk t_16 ((m_lk t_16) ||| 67108864)))]) (rest := [.int (m_ad (m_sLk t_16 ((m_lk t_16) ||| 67108864))), .ref (h 0)]) ⟨hx, hb, hml, hown, hts⟩ (c_m_four l dC dI h cI n (m_sLk t_16 ((m_lk t_16) ||| 67108864)) (m_ad (m_sLk t_16 ((m_lk t_16) ||| 67108864))) (m_in48 (a := m_ad t_16) hn (m_look_in hn hI ha e_17 c_19))) (cwV 1 hts gX1_X1_four rfl rfl rfl (by decide +kernel) ⟨Nat.le_of_ble_eq_true rfl, Nat.le_of_ble_eq_true rfl⟩) (m_preP hK hP) rfl rfl hl.1 rfl (lv_room (Nat.le_of_ble_eq_true rfl)) dX1_translate_121 ⟨Nat.zero_le _, Nat.zero_le _⟩) (fun r er => ?_)
                subst er
                refine lv_ldc (v := 67108864) hx hb hown (hts _ bX1_19) dX1_translate_124 ?_
                refine lv_ior hx hb dX1_translate_126 ?_
                refine m_callv (f := (m_putFour n (m_sLk t_16 ((m_lk t_16) ||| 67108864)) (m_ad (m_sLk t_16 ((m_lk t_16) ||| 67108864))) ((m_four n (m_sLk t_16 ((m_lk t_16) ||| 67108864)) (m_ad (m_sLk t_16 ((m_lk t_16) ||| 67108864)))) ||| 67108864))) (va_runV (C := RX1) (As := [.int (m_ad (m_sLk t_16 ((m_lk t_16) ||| 67108864))), .int ((m_four n (m_sLk t_16 ((m_lk t_16) ||| 67108864)) (m_ad (m_sLk t_16 ((m_lk t_16) ||| 67108864)))) ||| 67108864)]) (rest := []) ⟨hx, hb, hml, hown, hts⟩ (c_m_putFour l dC dI h cI n _ (m_sLk t_16 ((m_lk t_16) ||| 67108864)) (m_ad (m_sLk t_16 ((m_lk t_16) ||| 67108864))) ((m_four n (m_sLk t_16 ((m_lk t_16) ||| 67108864)) (m_ad (m_sLk t_16 ((m_lk t_16) ||| 67108864)))) ||| 67108864) (m_in48 (a := m_ad t_16) hn (m_look_in hn hI ha e_17 c_19))) (cwV 2 hts gX1_X1_putFour rfl rfl rfl (by decide +kernel) ⟨Nat.le_of_ble_eq_true rfl, Nat.le_of_ble_eq_true rfl⟩) (m_preM hK hP hD) rfl rfl hl.1 rfl (lv_room (Nat.le_of_ble_eq_true rfl)) dX1_translate_127 ⟨Nat.zero_le _, Nat.zero_le _⟩) hP hD hS hA (fun t_29 H locs e_30 hP hD hS => ?_)
                refine lv_iload hx hb dX1_translate_130 (lv_at hl 6 rfl) ?_
                refine lv_if_eq (tgt := 148) hx hb dX1_translate_132 (by decide) (fun c_31 => absurd c_31 c_22) (fun _ => ?_)
                refine lv_aload_n hx hb dX1_translate_135 rfl (lv_at hl 2 rfl) ?_
                refine lv_iload_n hx hb dX1_translate_136 rfl (lv_at hl 3 rfl) ?_
                refine lv_aload_n hx hb dX1_translate_137 rfl (lv_at hl 2 rfl) ?_
                refine va_get (D := (dC, dI)) (ci := 1) (v := .int (m_lk t_29)) (C := RX1) (T := TX1) (N := 14) hx hb hts inbX1 hown hK hP 0 rfl rfl 12 (by decide) (hts _ bX1_12) (fun _ h9 => h9) rfl dX1_translate_138 ?_
                refine lv_aload_n hx hb dX1_translate_141 rfl (lv_at hl 2 rfl) ?_
                refine va_get (D := (dC, dI)) (ci := 1) (v := .int (m_ad t_29)) (C := RX1) (T := TX1) (N := 14) hx hb hts inbX1 hown hK hP 0 rfl rfl 13 (by decide) (hts _ bX1_13) (fun _ h9 => h9) rfl dX1_translate_142 ?_
                refine m_callv (f := (m_keeps n t_29 a (m_lk t_29) (m_ad t_29))) (va_runV (C := RX1) (As := [.int a, .int (m_lk t_29), .int (m_ad t_29)]) (rest := []) ⟨hx, hb, hml, hown, hts⟩ (c_m_keeps l dC dI h cI n _ t_29 a (m_lk t_29) (m_ad t_29) ) (cwV 3 hts gX1_X1_keeps rfl rfl rfl (by decide +kernel) ⟨Nat.le_of_ble_eq_true rfl, Nat.le_of_ble_eq_true rfl⟩) (m_preM hK hP hD) rfl rfl hl.1 rfl (lv_room (Nat.le_of_ble_eq_true rfl)) dX1_translate_145 ⟨Nat.zero_le _, Nat.zero_le _⟩) hP hD hS hA (fun t_32 H locs e_33 hP hD hS => ?_)
                refine lv_bipush (v := 16) hx hb dX1_translate_148 (by decide) ?_
                refine lv_aload_n hx hb dX1_translate_150 rfl (lv_at hl 2 rfl) ?_
                refine va_get (D := (dC, dI)) (ci := 1) (v := .int (m_lk t_32)) (C := RX1) (T := TX1) (N := 14) hx hb hts inbX1 hown hK hP 0 rfl rfl 12 (by decide) (hts _ bX1_12) (fun _ h9 => h9) rfl dX1_translate_151 ?_
                refine lv_sipush (v := 4095) hx hb dX1_translate_154 (by decide) ?_
                refine lv_iand hx hb dX1_translate_157 ?_
                refine lv_imul hx hb dX1_translate_158 ?_
                refine lv_iload_n hx hb dX1_translate_159 rfl (lv_at hl 3 rfl) ?_
                refine lv_bipush (v := 16) hx hb dX1_translate_160 (by decide) ?_
                refine lv_irem hx hb dX1_translate_162 (by decide) ?_
                refine lv_iadd hx hb dX1_translate_163 ?_
                exact W.iret (v := (((16 : Int32) * ((m_lk t_32) &&& 4095)) + (a - a / 16 * 16))) hx hb hr (fun t ht hW => ⟨⟨(((16 : Int32) * ((m_lk t_32) &&& 4095)) + (a - a / 16 * 16)), t_32, rfl, (if_neg c_1).trans ((if_neg c_2).trans ((kb_eq e_17).trans ((if_pos c_19).trans ((if_neg c_20).trans ((if_pos c_21).trans ((if_neg c_22).trans ((if_pos c_25).trans ((kv_eq e_30).trans ((kv_eq e_33).trans rfl))))))))), by rw [ht]; exact hP, va_K.moved hW.alike hK, hD⟩, hS.F ht⟩) hS.2.2 dX1_translate_164
          · refine lv_bipush (v := (-11)) hx hb dX1_translate_73 (by decide) ?_
            refine lv_iload hx hb dX1_translate_75 (lv_at hl 1 rfl) ?_
            refine lv_isub hx hb dX1_translate_77 ?_
            exact W.iret (v := (((-11) : Int32) - 4)) hx hb hr (fun t ht hW => ⟨⟨(((-11) : Int32) - 4), t_16, rfl, (if_neg c_1).trans ((if_neg c_2).trans ((kb_eq e_17).trans ((if_pos c_19).trans ((if_neg c_20).trans ((if_neg c_21).trans rfl))))), by rw [ht]; exact hP, va_K.moved hW.alike hK, hD⟩, hS.F ht⟩) hS.2.2 dX1_translate_78
        · refine lv_iconst (v := (-1)) hx hb dX1_translate_61 (by decide) ?_
          refine lv_iload hx hb dX1_translate_62 (lv_at hl 1 rfl) ?_
          refine lv_isub hx hb dX1_translate_64 ?_
          exact W.iret (v := (((-1) : Int32) - 4)) hx hb hr (fun t ht hW => ⟨⟨(((-1) : Int32) - 4), t_16, rfl, (if_neg c_1).trans ((if_neg c_2).trans ((kb_eq e_17).trans ((if_pos c_19).trans ((if_pos c_20).trans rfl)))), by rw [ht]; exact hP, va_K.moved hW.alike hK, hD⟩, hS.F ht⟩) hS.2.2 dX1_translate_65
      · refine lv_iload hx hb dX1_translate_34 (lv_at hl 0 rfl) ?_
        refine lv_bipush (v := (-100)) hx hb dX1_translate_36 (by decide) ?_
        refine lv_icmp_ne (tgt := 46) hx hb dX1_translate_38 (by decide) (fun c_34 => ?_) (fun c_34 => ?_)
        · refine lv_iload hx hb dX1_translate_46 (lv_at hl 0 rfl) ?_
          refine lv_iload hx hb dX1_translate_48 (lv_at hl 1 rfl) ?_
          refine lv_isub hx hb dX1_translate_50 ?_
          exact W.iret (v := (r_18 - 4)) hx hb hr (fun t ht hW => ⟨⟨(r_18 - 4), t_16, rfl, (if_neg c_1).trans ((if_neg c_2).trans ((kb_eq e_17).trans ((if_neg c_19).trans ((if_neg c_34).trans rfl)))), by rw [ht]; exact hP, va_K.moved hW.alike hK, hD⟩, hS.F ht⟩) hS.2.2 dX1_translate_51
        · refine lv_bipush (v := (-100)) hx hb dX1_translate_41 (by decide) ?_
          refine lv_goto (tgt := 51) hx hb dX1_translate_43 (by decide) ?_
          exact W.iret (v := (-100)) hx hb hr (fun t ht hW => ⟨⟨(-100), t_16, rfl, (if_neg c_1).trans ((if_neg c_2).trans ((kb_eq e_17).trans ((if_neg c_19).trans ((if_pos c_34).trans rfl)))), by rw [ht]; exact hP, va_K.moved hW.alike hK, hD⟩, hS.F ht⟩) hS.2.2 dX1_translate_51
  · refine lv_iload_n hx hb dX1_translate_7 rfl (lv_at hl 1 rfl) ?_
    exact W.iret (v := a) hx hb hr (fun t ht hW => ⟨⟨a, σ, rfl, (if_pos c_1).trans rfl, by rw [ht]; exact hP, va_K.moved hW.alike hK, hD⟩, hS.F ht⟩) hS.2.2 dX1_translate_8
