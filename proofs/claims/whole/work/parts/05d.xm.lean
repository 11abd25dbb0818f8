set_option maxHeartbeats 4000000 in
set_option maxRecDepth 100000 in
theorem c_x_translate (l : Launch) (dC : Nat → ClassId) (dI : Nat → Nat → Nat) (h : Nat → Nat) (cB cI : ClassId) (n : Nat) (tw tr : Nat) (sz : Nat) (σ : XS) (a : Int32) (md : Int32) (b : Int32) (kp : Int32) (hn : n ≤ 2048) (hI : x_Inv n σ) (ha : ∃ K : Nat, K < 65536 ∧ a = nI K) : Met l yX0_translate wsX0_translate ({ frames := 4, cells := 0, slots := 0, locals := 95 }) (va_Pc [.ref (h 0), .int a, .int md, .int b, .int kp] (x_BMt dC dI h cB cI n tw tr sz σ)) (q_x_translate dC dI h cB cI n σ a md b kp (va_A (x_ws h cB cI n σ) sz)) 0 0 (va_A (x_ws h cB cI n σ) sz) := by
  refine Met.ofW (cc := cX0_translate) (maxL := 9) (ret := (some .int)) (by decide) rfl ?_
  intro p e s m args below meth c s₁ B hml hv
  obtain ⟨rfl, hsz, hP, hK, hD0, hST⟩ := hv
  have hx := B.exec
  have hb := B.bytes
  have hr := B.returns
  have hts : ∀ w ∈ bX0, w.before _ s = true := fun w h => atoms_spec (ws := wsX0_translate) B.pre w (List.mem_cons_of_mem _ h)
  have hown : s.vm.findClass RX0 = some m.cls := findClass_of_methodNamed B.named
  have hlocks := B.notSynchronized
  subst hsz
  have hD := hD0.self (sz := s.heap.size)
  generalize hAe : va_A (x_ws h cB cI n σ) s.heap.size = A at hD hST ⊢
  have hA : ∀ q : Nat, s.heap.size ≤ q → A q := fun q h => by rw [← hAe]; exact Or.inr h
  have hS : va_S A s.heap s.heap [] := va_S.rf
  have hP : va_P (dC, dI) vwCl (x_ws h cB cI n σ) s.heap := hP
  have hl := lv_entry ([.ref (h 0), .int a, .int md, .int b, .int kp]) (n := 9) (Nat.le_of_ble_eq_true rfl)
  rw [lg_entry_eq]
  generalize (lg_sl ([.ref (h 0), .int a, .int md, .int b, .int kp]) ++ List.replicate (9 - (lg_sl ([.ref (h 0), .int a, .int md, .int b, .int kp])).length) Slot.unset).toArray = ls at hl ⊢
  have hl : lv_has ls 9 [(0, .ref (h 0)), (1, .int a), (2, .int md), (3, .int b), (4, .int kp)] := hl
  refine lv_aload_n hx hb dX0_translate_0 rfl (lv_at hl 0 rfl) ?_
  refine va_get (D := (dC, dI)) (ci := 0) (v := .int (x_mp σ)) (C := RX0) (T := TX0) (N := 9) hx hb hts inbX0 hown hK hP 0 rfl rfl 3 (by decide) (hts _ bX0_3) (fun _ h9 => h9) rfl dX0_translate_1 ?_
  refine lv_if_ne (tgt := 9) hx hb dX0_translate_4 (by decide) (fun c_1 => ?_) (fun c_1 => ?_)
  · refine lv_iload_n hx hb dX0_translate_9 rfl (lv_at hl 1 rfl) ?_
    refine vp_callSi (W.runS (As := [.int a]) (rest := []) ⟨hx, hb, hml, hown, hts⟩ (c_x_slotOf l a ) (va_cwS 1 hts gX0_X0_slotOf rfl rfl rfl (by decide +kernel) ⟨Nat.le_of_ble_eq_true rfl, Nat.le_of_ble_eq_true rfl⟩) (fs_pre) rfl rfl hl.1 rfl (lv_room (Nat.le_of_ble_eq_true rfl)) dX0_translate_10 ⟨Nat.zero_le _, Nat.zero_le _⟩) (fun r er => ?_)
    subst er
    refine lv_istore (lv' := [(5, .int (x_slotOf a)), (0, .ref (h 0)), (1, .int a), (2, .int md), (3, .int b), (4, .int kp)]) hx hb dX0_translate_13 hl (by decide) rfl (fun ls hl => ?_)
    refine lv_aload_n hx hb dX0_translate_15 rfl (lv_at hl 1 rfl) ?_
    refine lv_iload hx hb dX0_translate_16 (lv_at hl 0 rfl) ?_
    refine lv_iload_n hx hb dX0_translate_18 rfl (lv_at hl 2 rfl) ?_
    refine vp_callSi (W.runV (C := RX0) (As := [.int (x_slotOf a), .int a]) (rest := []) ⟨hx, hb, hml, hown, hts⟩ (c_x_counts l dC dI h cB cI n σ (x_slotOf a) a (x_slot_in a)) (cwV 2 hts gX0_X0_counts rfl rfl rfl (by decide +kernel) ⟨Nat.le_of_ble_eq_true rfl, Nat.le_of_ble_eq_true rfl⟩) (x_preP hK hP) rfl rfl hl.1 rfl (lv_room (Nat.le_of_ble_eq_true rfl)) dX0_translate_19 ⟨Nat.zero_le _, Nat.zero_le _⟩) (fun r er => ?_)
    subst er
    refine lv_istore (lv' := [(6, .int (x_counts n σ (x_slotOf a) a)), (5, .int (x_slotOf a)), (0, .ref (h 0)), (1, .int a), (2, .int md), (3, .int b), (4, .int kp)]) hx hb dX0_translate_22 hl (by decide) rfl (fun ls hl => ?_)
    refine lv_iload hx hb dX0_translate_24 (lv_at hl 0 rfl) ?_
    refine lv_if_eq (tgt := 39) hx hb dX0_translate_26 (by decide) (fun c_2 => ?_) (fun c_2 => ?_)
    · refine lv_aload_n hx hb dX0_translate_39 rfl (lv_at hl 2 rfl) ?_
      refine lv_iload_n hx hb dX0_translate_40 rfl (lv_at hl 3 rfl) ?_
      refine lv_iload_n hx hb dX0_translate_41 rfl (lv_at hl 5 rfl) ?_
      refine lv_iload hx hb dX0_translate_42 (lv_at hl 6 rfl) ?_
      refine x_calli (f := (x_placeOfEntry n σ a b kp)) (va_runV (C := RX0) (As := [.int a, .int b, .int kp]) (rest := []) ⟨hx, hb, hml, hown, hts⟩ (c_x_placeOfEntry l dC dI h cB cI n _ σ a b kp hn) (cwV 3 hts gX0_X0_placeOfEntry rfl rfl rfl (by decide +kernel) ⟨Nat.le_of_ble_eq_true rfl, Nat.le_of_ble_eq_true rfl⟩) (x_preM hK hP hD) rfl rfl hl.1 rfl (lv_room (Nat.le_of_ble_eq_true rfl)) dX0_translate_44 ⟨Nat.zero_le _, Nat.zero_le _⟩) hP hD hS hA (fun r_5 t_3 H locs e_4 hP hD hS => ?_)
      refine lv_istore (lv' := [(7, .int r_5), (6, .int (x_counts n σ (x_slotOf a) a)), (5, .int (x_slotOf a)), (0, .ref (h 0)), (1, .int a), (2, .int md), (3, .int b), (4, .int kp)]) hx hb dX0_translate_47 hl (by decide) rfl (fun ls hl => ?_)
      refine lv_iload hx hb dX0_translate_49 (lv_at hl 0 rfl) ?_
      refine lv_if_ge (tgt := 57) hx hb dX0_translate_51 (by decide) (fun c_6 => ?_) (fun c_6 => ?_)
      · refine lv_iload hx hb dX0_translate_57 (lv_at hl 1 rfl) ?_
        refine lv_if_eq (tgt := 72) hx hb dX0_translate_59 (by decide) (fun _ => ?_) (fun c_7 => absurd c_2 c_7)
        refine lv_aload_n hx hb dX0_translate_72 rfl (lv_at hl 3 rfl) ?_
        refine lv_iload hx hb dX0_translate_73 (lv_at hl 0 rfl) ?_
        refine vp_callSi (W.runV (C := RX0) (As := [.int r_5]) (rest := []) ⟨hx, hb, hml, hown, hts⟩ (c_x_entryAt l dC dI h cB cI n t_3 r_5 (x_poe_in hn e_4 c_6)) (cwV 1 hts gX0_X0_entryAt rfl rfl rfl (by decide +kernel) ⟨Nat.le_of_ble_eq_true rfl, Nat.le_of_ble_eq_true rfl⟩) (x_preP hK hP) rfl rfl hl.1 rfl (lv_room (Nat.le_of_ble_eq_true rfl)) dX0_translate_75 ⟨Nat.zero_le _, Nat.zero_le _⟩) (fun r er => ?_)
        subst er
        refine lv_istore (lv' := [(8, .int (x_entryAt n t_3 r_5)), (7, .int r_5), (6, .int (x_counts n σ (x_slotOf a) a)), (5, .int (x_slotOf a)), (0, .ref (h 0)), (1, .int a), (2, .int md), (3, .int b), (4, .int kp)]) hx hb dX0_translate_78 hl (by decide) rfl (fun ls hl => ?_)
        refine lv_iload hx hb dX0_translate_80 (lv_at hl 0 rfl) ?_
        refine lv_iload_n hx hb dX0_translate_82 rfl (lv_at hl 6 rfl) ?_
        refine lv_iload_n hx hb dX0_translate_83 rfl (lv_at hl 7 rfl) ?_
        refine vp_callSi (W.runS (As := [.int (x_entryAt n t_3 r_5), .int md, .int b]) (rest := []) ⟨hx, hb, hml, hown, hts⟩ (c_x_gives l tw tr (x_entryAt n t_3 r_5) md b ) (va_cwS 3 hts gX0_X0_gives rfl rfl rfl (by decide +kernel) ⟨Nat.le_of_ble_eq_true rfl, Nat.le_of_ble_eq_true rfl⟩) (x_preS hST hS) rfl rfl hl.1 rfl (lv_room (Nat.le_of_ble_eq_true rfl)) dX0_translate_84 ⟨Nat.zero_le _, Nat.zero_le _⟩) (fun r er => ?_)
        subst er
        refine lv_if_ne (tgt := 96) hx hb dX0_translate_87 (by decide) (fun c_8 => ?_) (fun c_8 => ?_)
        · refine lv_iload hx hb dX0_translate_96 (lv_at hl 0 rfl) ?_
          refine vp_callSi (W.runS (As := [.int (x_entryAt n t_3 r_5)]) (rest := []) ⟨hx, hb, hml, hown, hts⟩ (c_x_isValid l (x_entryAt n t_3 r_5) ) (va_cwS 1 hts gX0_X0_isValid rfl rfl rfl (by decide +kernel) ⟨Nat.le_of_ble_eq_true rfl, Nat.le_of_ble_eq_true rfl⟩) (fs_pre) rfl rfl hl.1 rfl (lv_room (Nat.le_of_ble_eq_true rfl)) dX0_translate_98 ⟨Nat.zero_le _, Nat.zero_le _⟩) (fun r er => ?_)
          subst er
          refine lv_if_ne (tgt := 110) hx hb dX0_translate_101 (by decide) (fun c_9 => ?_) (fun c_9 => ?_)
          · refine lv_iload hx hb dX0_translate_110 (lv_at hl 8 rfl) ?_
            refine lv_if_eq (tgt := 136) hx hb dX0_translate_112 (by decide) (fun c_10 => ?_) (fun c_10 => ?_)
            · refine lv_iload hx hb dX0_translate_136 (lv_at hl 0 rfl) ?_
              refine lv_iload_n hx hb dX0_translate_138 rfl (lv_at hl 5 rfl) ?_
              refine vp_callSi (W.runS (As := [.int (x_entryAt n t_3 r_5), .int a]) (rest := []) ⟨hx, hb, hml, hown, hts⟩ (c_x_physical l (x_entryAt n t_3 r_5) a ) (va_cwS 2 hts gX0_X0_physical rfl rfl rfl (by decide +kernel) ⟨Nat.le_of_ble_eq_true rfl, Nat.le_of_ble_eq_true rfl⟩) (fs_pre) rfl rfl hl.1 rfl (lv_room (Nat.le_of_ble_eq_true rfl)) dX0_translate_139 ⟨Nat.zero_le _, Nat.zero_le _⟩) (fun r er => ?_)
              subst er
              exact W.iret (v := (x_physical (x_entryAt n t_3 r_5) a)) hx hb hr (fun t ht hW => ⟨⟨(x_physical (x_entryAt n t_3 r_5) a), t_3, rfl, (if_neg c_1).trans ((if_pos c_2).trans ((kb_eq e_4).trans ((if_pos c_6).trans ((if_neg c_8).trans ((if_neg c_9).trans ((if_pos c_10).trans rfl)))))), by rw [ht]; exact hP, va_K.moved hW.alike hK, hD⟩, hS.F ht⟩) hS.2.2 dX0_translate_142
            · refine lv_aload_n hx hb dX0_translate_115 rfl (lv_at hl 4 rfl) ?_
              refine lv_iload hx hb dX0_translate_116 (lv_at hl 3 rfl) ?_
              refine lv_iload_n hx hb dX0_translate_118 rfl (lv_at hl 5 rfl) ?_
              refine lv_iload hx hb dX0_translate_119 (lv_at hl 0 rfl) ?_
              refine lv_iload hx hb dX0_translate_121 (lv_at hl 1 rfl) ?_
              refine x_callv (f := (x_keepEntry n t_3 (x_slotOf a) a (x_entryAt n t_3 r_5) r_5)) (va_runV (C := RX0) (As := [.int (x_slotOf a), .int a, .int (x_entryAt n t_3 r_5), .int r_5]) (rest := []) ⟨hx, hb, hml, hown, hts⟩ (c_x_keepEntry l dC dI h cB cI n _ t_3 (x_slotOf a) a (x_entryAt n t_3 r_5) r_5 (x_slot_in a)) (cwV 4 hts gX0_X0_keepEntry rfl rfl rfl (by decide +kernel) ⟨Nat.le_of_ble_eq_true rfl, Nat.le_of_ble_eq_true rfl⟩) (x_preM hK hP hD) rfl rfl hl.1 rfl (lv_room (Nat.le_of_ble_eq_true rfl)) dX0_translate_123 ⟨Nat.zero_le _, Nat.zero_le _⟩) hP hD hS hA (fun t_11 H locs e_12 hP hD hS => ?_)
              refine lv_iload_n hx hb dX0_translate_126 rfl (lv_at hl 7 rfl) ?_
              refine lv_if_eq (tgt := 136) hx hb dX0_translate_127 (by decide) (fun c_13 => ?_) (fun c_13 => ?_)
              · refine lv_iload hx hb dX0_translate_136 (lv_at hl 0 rfl) ?_
                refine lv_iload_n hx hb dX0_translate_138 rfl (lv_at hl 5 rfl) ?_
                refine vp_callSi (W.runS (As := [.int (x_entryAt n t_3 r_5), .int a]) (rest := []) ⟨hx, hb, hml, hown, hts⟩ (c_x_physical l (x_entryAt n t_3 r_5) a ) (va_cwS 2 hts gX0_X0_physical rfl rfl rfl (by decide +kernel) ⟨Nat.le_of_ble_eq_true rfl, Nat.le_of_ble_eq_true rfl⟩) (fs_pre) rfl rfl hl.1 rfl (lv_room (Nat.le_of_ble_eq_true rfl)) dX0_translate_139 ⟨Nat.zero_le _, Nat.zero_le _⟩) (fun r er => ?_)
                subst er
                exact W.iret (v := (x_physical (x_entryAt n t_3 r_5) a)) hx hb hr (fun t ht hW => ⟨⟨(x_physical (x_entryAt n t_3 r_5) a), t_11, rfl, (if_neg c_1).trans ((if_pos c_2).trans ((kb_eq e_4).trans ((if_pos c_6).trans ((if_neg c_8).trans ((if_neg c_9).trans ((if_neg c_10).trans ((kv_eq e_12).trans ((if_pos c_13).trans rfl)))))))), by rw [ht]; exact hP, va_K.moved hW.alike hK, hD⟩, hS.F ht⟩) hS.2.2 dX0_translate_142
              · refine lv_aload_n hx hb dX0_translate_130 rfl (lv_at hl 4 rfl) ?_
                refine lv_iload hx hb dX0_translate_131 (lv_at hl 3 rfl) ?_
                refine x_callv (f := (x_markWritten n t_11 (x_slotOf a))) (va_runV (C := RX0) (As := [.int (x_slotOf a)]) (rest := []) ⟨hx, hb, hml, hown, hts⟩ (c_x_markWritten l dC dI h cB cI n _ t_11 (x_slotOf a) (x_slot_in a) (x_mark_in (x_slot_in a) (x_poe_in hn e_4 c_6) e_12)) (cwV 1 hts gX0_X0_markWritten rfl rfl rfl (by decide +kernel) ⟨Nat.le_of_ble_eq_true rfl, Nat.le_of_ble_eq_true rfl⟩) (x_preM hK hP hD) rfl rfl hl.1 rfl (lv_room (Nat.le_of_ble_eq_true rfl)) dX0_translate_133 ⟨Nat.zero_le _, Nat.zero_le _⟩) hP hD hS hA (fun t_14 H locs e_15 hP hD hS => ?_)
                refine lv_iload hx hb dX0_translate_136 (lv_at hl 0 rfl) ?_
                refine lv_iload_n hx hb dX0_translate_138 rfl (lv_at hl 5 rfl) ?_
                refine vp_callSi (W.runS (As := [.int (x_entryAt n t_3 r_5), .int a]) (rest := []) ⟨hx, hb, hml, hown, hts⟩ (c_x_physical l (x_entryAt n t_3 r_5) a ) (va_cwS 2 hts gX0_X0_physical rfl rfl rfl (by decide +kernel) ⟨Nat.le_of_ble_eq_true rfl, Nat.le_of_ble_eq_true rfl⟩) (fs_pre) rfl rfl hl.1 rfl (lv_room (Nat.le_of_ble_eq_true rfl)) dX0_translate_139 ⟨Nat.zero_le _, Nat.zero_le _⟩) (fun r er => ?_)
                subst er
                exact W.iret (v := (x_physical (x_entryAt n t_3 r_5) a)) hx hb hr (fun t ht hW => ⟨⟨(x_physical (x_entryAt n t_3 r_5) a), t_14, rfl, (if_neg c_1).trans ((if_pos c_2).trans ((kb_eq e_4).trans ((if_pos c_6).trans ((if_neg c_8).trans ((if_neg c_9).trans ((if_neg c_10).trans ((kv_eq e_12).trans ((if_neg c_13).trans ((kv_eq e_15).trans rfl))))))))), by rw [ht]; exact hP, va_K.moved hW.alike hK, hD⟩, hS.F ht⟩) hS.2.2 dX0_translate_142
          · refine lv_iconst (v := 0) hx hb dX0_translate_104 (by decide) ?_
            refine lv_iload_n hx hb dX0_translate_105 rfl (lv_at hl 7 rfl) ?_
            refine vp_callSi (W.runS (As := [.int 0, .int b]) (rest := []) ⟨hx, hb, hml, hown, hts⟩ (c_x_missing l 0 b ) (va_cwS 2 hts gX0_X0_missing rfl rfl rfl (by decide +kernel) ⟨Nat.le_of_ble_eq_true rfl, Nat.le_of_ble_eq_true rfl⟩) (fs_pre) rfl rfl hl.1 rfl (lv_room (Nat.le_of_ble_eq_true rfl)) dX0_translate_106 ⟨Nat.zero_le _, Nat.zero_le _⟩) (fun r er => ?_)
            subst er
            exact W.iret (v := (x_missing 0 b)) hx hb hr (fun t ht hW => ⟨⟨(x_missing 0 b), t_3, rfl, (if_neg c_1).trans ((if_pos c_2).trans ((kb_eq e_4).trans ((if_pos c_6).trans ((if_neg c_8).trans ((if_pos c_9).trans rfl))))), by rw [ht]; exact hP, va_K.moved hW.alike hK, hD⟩, hS.F ht⟩) hS.2.2 dX0_translate_109
        · refine lv_iconst (v := 0) hx hb dX0_translate_90 (by decide) ?_
          refine lv_iload_n hx hb dX0_translate_91 rfl (lv_at hl 7 rfl) ?_
          refine vp_callSi (W.runS (As := [.int 0, .int b]) (rest := []) ⟨hx, hb, hml, hown, hts⟩ (c_x_access l 0 b ) (va_cwS 2 hts gX0_X0_access rfl rfl rfl (by decide +kernel) ⟨Nat.le_of_ble_eq_true rfl, Nat.le_of_ble_eq_true rfl⟩) (fs_pre) rfl rfl hl.1 rfl (lv_room (Nat.le_of_ble_eq_true rfl)) dX0_translate_92 ⟨Nat.zero_le _, Nat.zero_le _⟩) (fun r er => ?_)
          subst er
          exact W.iret (v := (x_access 0 b)) hx hb hr (fun t ht hW => ⟨⟨(x_access 0 b), t_3, rfl, (if_neg c_1).trans ((if_pos c_2).trans ((kb_eq e_4).trans ((if_pos c_6).trans ((if_pos c_8).trans rfl)))), by rw [ht]; exact hP, va_K.moved hW.alike hK, hD⟩, hS.F ht⟩) hS.2.2 dX0_translate_95
      · refine lv_iload hx hb dX0_translate_54 (lv_at hl 0 rfl) ?_
        exact W.iret (v := r_5) hx hb hr (fun t ht hW => ⟨⟨r_5, t_3, rfl, (if_neg c_1).trans ((if_pos c_2).trans ((kb_eq e_4).trans ((if_neg c_6).trans rfl))), by rw [ht]; exact hP, va_K.moved hW.alike hK, hD⟩, hS.F ht⟩) hS.2.2 dX0_translate_56
    · refine lv_aload_n hx hb dX0_translate_29 rfl (lv_at hl 2 rfl) ?_
      refine va_get (D := (dC, dI)) (ci := 0) (v := .ref (h 6)) (C := RX0) (T := TX0) (N := 9) hx hb hts inbX0 hown hK hP 0 rfl rfl 7 (by decide) (hts _ bX0_7) (fun _ h9 => h9) rfl dX0_translate_30 ?_
      refine lv_iload hx hb dX0_translate_33 (lv_at hl 1 rfl) ?_
      refine va_iald hx hb hK hP 6 1 rfl rfl (x_slot_in a) dX0_translate_35 ?_
      refine lv_goto (tgt := 47) hx hb dX0_translate_36 (by decide) ?_
      refine lv_istore (lv' := [(7, .int (x_kpl σ ((x_slotOf a)).toNatClampNeg)), (6, .int (x_counts n σ (x_slotOf a) a)), (5, .int (x_slotOf a)), (0, .ref (h 0)), (1, .int a), (2, .int md), (3, .int b), (4, .int kp)]) hx hb dX0_translate_47 hl (by decide) rfl (fun ls hl => ?_)
      refine lv_iload hx hb dX0_translate_49 (lv_at hl 0 rfl) ?_
      refine lv_if_ge (tgt := 57) hx hb dX0_translate_51 (by decide) (fun c_16 => ?_) (fun c_16 => ?_)
      · refine lv_iload hx hb dX0_translate_57 (lv_at hl 1 rfl) ?_
        refine lv_if_eq (tgt := 72) hx hb dX0_translate_59 (by decide) (fun c_17 => absurd c_17 c_2) (fun _ => ?_)
        refine lv_aload_n hx hb dX0_translate_62 rfl (lv_at hl 3 rfl) ?_
        refine va_get (D := (dC, dI)) (ci := 0) (v := .ref (h 5)) (C := RX0) (T := TX0) (N := 9) hx hb hts inbX0 hown hK hP 0 rfl rfl 6 (by decide) (hts _ bX0_6) (fun _ h9 => h9) rfl dX0_translate_63 ?_
        refine lv_iload hx hb dX0_translate_66 (lv_at hl 2 rfl) ?_
        refine va_iald hx hb hK hP 5 1 rfl rfl (x_slot_in a) dX0_translate_68 ?_
        refine lv_goto (tgt := 78) hx hb dX0_translate_69 (by decide) ?_
        refine lv_istore (lv' := [(8, .int (x_ke σ ((x_slotOf a)).toNatClampNeg)), (7, .int (x_kpl σ ((x_slotOf a)).toNatClampNeg)), (6, .int (x_counts n σ (x_slotOf a) a)), (5, .int (x_slotOf a)), (0, .ref (h 0)), (1, .int a), (2, .int md), (3, .int b), (4, .int kp)]) hx hb dX0_translate_78 hl (by decide) rfl (fun ls hl => ?_)
        refine lv_iload hx hb dX0_translate_80 (lv_at hl 0 rfl) ?_
        refine lv_iload_n hx hb dX0_translate_82 rfl (lv_at hl 6 rfl) ?_
        refine lv_iload_n hx hb dX0_translate_83 rfl (lv_at hl 7 rfl) ?_
        refine vp_callSi (W.runS (As := [.int (x_ke σ ((x_slotOf a)).toNatClampNeg), .int md, .int b]) (rest := []) ⟨hx, hb, hml, hown, hts⟩ (c_x_gives l tw tr (x_ke σ ((x_slotOf a)).toNatClampNeg) md b ) (va_cwS 3 hts gX0_X0_gives rfl rfl rfl (by decide +kernel) ⟨Nat.le_of_ble_eq_true rfl, Nat.le_of_ble_eq_true rfl⟩) (x_preS hST hS) rfl rfl hl.1 rfl (lv_room (Nat.le_of_ble_eq_true rfl)) dX0_translate_84 ⟨Nat.zero_le _, Nat.zero_le _⟩) (fun r er => ?_)
        subst er
        refine lv_if_ne (tgt := 96) hx hb dX0_translate_87 (by decide) (fun c_18 => ?_) (fun c_18 => ?_)
        · refine lv_iload hx hb dX0_translate_96 (lv_at hl 0 rfl) ?_
          refine vp_callSi (W.runS (As := [.int (x_ke σ ((x_slotOf a)).toNatClampNeg)]) (rest := []) ⟨hx, hb, hml, hown, hts⟩ (c_x_isValid l (x_ke σ ((x_slotOf a)).toNatClampNeg) ) (va_cwS 1 hts gX0_X0_isValid rfl rfl rfl (by decide +kernel) ⟨Nat.le_of_ble_eq_true rfl, Nat.le_of_ble_eq_true rfl⟩) (fs_pre) rfl rfl hl.1 rfl (lv_room (Nat.le_of_ble_eq_true rfl)) dX0_translate_98 ⟨Nat.zero_le _, Nat.zero_le _⟩) (fun r er => ?_)
          subst er
          refine lv_if_ne (tgt := 110) hx hb dX0_translate_101 (by decide) (fun c_19 => ?_) (fun c_19 => ?_)
          · refine lv_iload hx hb dX0_translate_110 (lv_at hl 8 rfl) ?_
            refine lv_if_eq (tgt := 136) hx hb dX0_translate_112 (by decide) (fun c_20 => ?_) (fun c_20 => ?_)
            · refine lv_iload hx hb dX0_translate_136 (lv_at hl 0 rfl) ?_
              refine lv_iload_n hx hb dX0_translate_138 rfl (lv_at hl 5 rfl) ?_
              refine vp_callSi (W.runS (As := [.int (x_ke σ ((x_slotOf a)).toNatClampNeg), .int a]) (rest := []) ⟨hx, hb, hml, hown, hts⟩ (c_x_physical l (x_ke σ ((x_slotOf a)).toNatClampNeg) a ) (va_cwS 2 hts gX0_X0_physical rfl rfl rfl (by decide +kernel) ⟨Nat.le_of_ble_eq_true rfl, Nat.le_of_ble_eq_true rfl⟩) (fs_pre) rfl rfl hl.1 rfl (lv_room (Nat.le_of_ble_eq_true rfl)) dX0_translate_139 ⟨Nat.zero_le _, Nat.zero_le _⟩) (fun r er => ?_)
              subst er
              exact W.iret (v := (x_physical (x_ke σ ((x_slotOf a)).toNatClampNeg) a)) hx hb hr (fun t ht hW => ⟨⟨(x_physical (x_ke σ ((x_slotOf a)).toNatClampNeg) a), σ, rfl, (if_neg c_1).trans ((if_neg c_2).trans ((if_pos c_16).trans ((if_neg c_18).trans ((if_neg c_19).trans ((if_pos c_20).trans rfl))))), by rw [ht]; exact hP, va_K.moved hW.alike hK, hD⟩, hS.F ht⟩) hS.2.2 dX0_translate_142
            · refine lv_aload_n hx hb dX0_translate_115 rfl (lv_at hl 4 rfl) ?_
              refine lv_iload hx hb dX0_translate_116 (lv_at hl 3 rfl) ?_
              refine lv_iload_n hx hb dX0_translate_118 rfl (lv_at hl 5 rfl) ?_
              refine lv_iload hx hb dX0_translate_119 (lv_at hl 0 rfl) ?_
              refine lv_iload hx hb dX0_translate_121 (lv_at hl 1 rfl) ?_
              refine x_callv (f := (x_keepEntry n σ (x_slotOf a) a (x_ke σ ((x_slotOf a)).toNatClampNeg) (x_kpl σ ((x_slotOf a)).toNatClampNeg))) (va_runV (C := RX0) (As := [.int (x_slotOf a), .int a, .int (x_ke σ ((x_slotOf a)).toNatClampNeg), .int (x_kpl σ ((x_slotOf a)).toNatClampNeg)]) (rest := []) ⟨hx, hb, hml, hown, hts⟩ (c_x_keepEntry l dC dI h cB cI n _ σ (x_slotOf a) a (x_ke σ ((x_slotOf a)).toNatClampNeg) (x_kpl σ ((x_slotOf a)).toNatClampNeg) (x_slot_in a)) (cwV 4 hts gX0_X0_keepEntry rfl rfl rfl (by decide +kernel) ⟨Nat.le_of_ble_eq_true rfl, Nat.le_of_ble_eq_true rfl⟩) (x_preM hK hP hD) rfl rfl hl.1 rfl (lv_room (Nat.le_of_ble_eq_true rfl)) dX0_translate_123 ⟨Nat.zero_le _, Nat.zero_le _⟩) hP hD hS hA (fun t_21 H locs e_22 hP hD hS => ?_)
              refine lv_iload_n hx hb dX0_translate_126 rfl (lv_at hl 7 rfl) ?_
              refine lv_if_eq (tgt := 136) hx hb dX0_translate_127 (by decide) (fun c_23 => ?_) (fun c_23 => ?_)
              · refine lv_iload hx hb dX0_translate_136 (lv_at hl 0 rfl) ?_
                refine lv_iload_n hx hb dX0_translate_138 rfl (lv_at hl 5 rfl) ?_
                refine vp_callSi (W.runS (As := [.int (x_ke σ ((x_slotOf a)).toNatClampNeg), .int a]) (rest := []) ⟨hx, hb, hml, hown, hts⟩ (c_x_physical l (x_ke σ ((x_slotOf a)).toNatClampNeg) a ) (va_cwS 2 hts gX0_X0_physical rfl rfl rfl (by decide +kernel) ⟨Nat.le_of_ble_eq_true rfl, Nat.le_of_ble_eq_true rfl⟩) (fs_pre) rfl rfl hl.1 rfl (lv_room (Nat.le_of_ble_eq_true rfl)) dX0_translate_139 ⟨Nat.zero_le _, Nat.zero_le _⟩) (fun r er => ?_)
                subst er
                exact W.iret (v := (x_physical (x_ke σ ((x_slotOf a)).toNatClampNeg) a)) hx hb hr (fun t ht hW => ⟨⟨(x_physical (x_ke σ ((x_slotOf a)).toNatClampNeg) a), t_21, rfl, (if_neg c_1).trans ((if_neg c_2).trans ((if_pos c_16).trans ((if_neg c_18).trans ((if_neg c_19).trans ((if_neg c_20).trans ((kv_eq e_22).trans ((if_pos c_23).trans rfl))))))), by rw [ht]; exact hP, va_K.moved hW.alike hK, hD⟩, hS.F ht⟩) hS.2.2 dX0_translate_142
              · refine lv_aload_n hx hb dX0_translate_130 rfl (lv_at hl 4 rfl) ?_
                refine lv_iload hx hb dX0_translate_131 (lv_at hl 3 rfl) ?_
                refine x_callv (f := (x_markWritten n t_21 (x_slotOf a))) (va_runV (C := RX0) (As := [.int (x_slotOf a)]) (rest := []) ⟨hx, hb, hml, hown, hts⟩ (c_x_markWritten l dC dI h cB cI n _ t_21 (x_slotOf a) (x_slot_in a) (x_mark_in (x_slot_in a) (x_inv_at hI ha c_2) e_22)) (cwV 1 hts gX0_X0_markWritten rfl rfl rfl (by decide +kernel) ⟨Nat.le_of_ble_eq_true rfl, Nat.le_of_ble_eq_true rfl⟩) (x_preM hK hP hD) rfl rfl hl.1 rfl (lv_room (Nat.le_of_ble_eq_true rfl)) dX0_translate_133 ⟨Nat.zero_le _, Nat.zero_le _⟩) hP hD hS hA (fun t_24 H locs e_25 hP hD hS => ?_)
                refine lv_iload hx hb dX0_translate_136 (lv_at hl 0 rfl) ?_
                refine lv_iload_n hx hb dX0_translate_138 rfl (lv_at hl 5 rfl) ?_
                refine vp_callSi (W.runS (As := [.int (x_ke σ ((x_slotOf a)).toNatClampNeg), .int a]) (rest := []) ⟨hx, hb, hml, hown, hts⟩ (c_x_physical l (x_ke σ ((x_slotOf a)).toNatClampNeg) a ) (va_cwS 2 hts gX0_X0_physical rfl rfl rfl (by decide +kernel) ⟨Nat.le_of_ble_eq_true rfl, Nat.le_of_ble_eq_true rfl⟩) (fs_pre) rfl rfl hl.1 rfl (lv_room (Nat.le_of_ble_eq_true rfl)) dX0_translate_139 ⟨Nat.zero_le _, Nat.zero_le _⟩) (fun r er => ?_)
                subst er
                exact W.iret (v := (x_physical (x_ke σ ((x_slotOf a)).toNatClampNeg) a)) hx hb hr (fun t ht hW => ⟨⟨(x_physical (x_ke σ ((x_slotOf a)).toNatClampNeg) a), t_24, rfl, (if_neg c_1).trans ((if_neg c_2).trans ((if_pos c_16).trans ((if_neg c_18).trans ((if_neg c_19).trans ((if_neg c_20).trans ((kv_eq e_22).trans ((if_neg c_23).trans ((kv_eq e_25).trans rfl)))))))), by rw [ht]; exact hP, va_K.moved hW.alike hK, hD⟩, hS.F ht⟩) hS.2.2 dX0_translate_142
          · refine lv_iconst (v := 0) hx hb dX0_translate_104 (by decide) ?_
            refine lv_iload_n hx hb dX0_translate_105 rfl (lv_at hl 7 rfl) ?_
            refine vp_callSi (W.runS (As := [.int 0, .int b]) (rest := []) ⟨hx, hb, hml, hown, hts⟩ (c_x_missing l 0 b ) (va_cwS 2 hts gX0_X0_missing rfl rfl rfl (by decide +kernel) ⟨Nat.le_of_ble_eq_true rfl, Nat.le_of_ble_eq_true rfl⟩) (fs_pre) rfl rfl hl.1 rfl (lv_room (Nat.le_of_ble_eq_true rfl)) dX0_translate_106 ⟨Nat.zero_le _, Nat.zero_le _⟩) (fun r er => ?_)
            subst er
            exact W.iret (v := (x_missing 0 b)) hx hb hr (fun t ht hW => ⟨⟨(x_missing 0 b), σ, rfl, (if_neg c_1).trans ((if_neg c_2).trans ((if_pos c_16).trans ((if_neg c_18).trans ((if_pos c_19).trans rfl)))), by rw [ht]; exact hP, va_K.moved hW.alike hK, hD⟩, hS.F ht⟩) hS.2.2 dX0_translate_109
        · refine lv_iconst (v := 0) hx hb dX0_translate_90 (by decide) ?_
          refine lv_iload_n hx hb dX0_translate_91 rfl (lv_at hl 7 rfl) ?_
          refine vp_callSi (W.runS (As := [.int 0, .int b]) (rest := []) ⟨hx, hb, hml, hown, hts⟩ (c_x_access l 0 b ) (va_cwS 2 hts gX0_X0_access rfl rfl rfl (by decide +kernel) ⟨Nat.le_of_ble_eq_true rfl, Nat.le_of_ble_eq_true rfl⟩) (fs_pre) rfl rfl hl.1 rfl (lv_room (Nat.le_of_ble_eq_true rfl)) dX0_translate_92 ⟨Nat.zero_le _, Nat.zero_le _⟩) (fun r er => ?_)
          subst er
          exact W.iret (v := (x_access 0 b)) hx hb hr (fun t ht hW => ⟨⟨(x_access 0 b), σ, rfl, (if_neg c_1).trans ((if_neg c_2).trans ((if_pos c_16).trans ((if_pos c_18).trans rfl))), by rw [ht]; exact hP, va_K.moved hW.alike hK, hD⟩, hS.F ht⟩) hS.2.2 dX0_translate_95
      · refine lv_iload hx hb dX0_translate_54 (lv_at hl 0 rfl) ?_
        exact W.iret (v := (x_kpl σ ((x_slotOf a)).toNatClampNeg)) hx hb hr (fun t ht hW => ⟨⟨(x_kpl σ ((x_slotOf a)).toNatClampNeg), σ, rfl, (if_neg c_1).trans ((if_neg c_2).trans ((if_neg c_16).trans rfl)), by rw [ht]; exact hP, va_K.moved hW.alike hK, hD⟩, hS.F ht⟩) hS.2.2 dX0_translate_56
  · refine lv_iload_n hx hb dX0_translate_7 rfl (lv_at hl 1 rfl) ?_
    exact W.iret (v := a) hx hb hr (fun t ht hW => ⟨⟨a, σ, rfl, (if_pos c_1).trans rfl, by rw [ht]; exact hP, va_K.moved hW.alike hK, hD⟩, hS.F ht⟩) hS.2.2 dX0_translate_8
