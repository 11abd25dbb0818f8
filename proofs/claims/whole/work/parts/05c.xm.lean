set_option maxHeartbeats 4000000 in
set_option maxRecDepth 100000 in
theorem c_x_placeThroughS (l : Launch) (dC : Nat → ClassId) (dI : Nat → Nat → Nat) (h : Nat → Nat) (cB cI : ClassId) (n : Nat) (sz : Nat) (σ : XS) (a : Int32) (b : Int32) (kp : Int32) (hn : n ≤ 2048) : Met l yX0_placeThroughS wsX0_placeThroughS ({ frames := 2, cells := 0, slots := 0, locals := 42 }) (va_Pc [.ref (h 0), .int a, .int b, .int kp] (x_BM dC dI h cB cI n sz σ)) (q_x_placeThroughS dC dI h cB cI n σ a b kp (va_A (x_ws h cB cI n σ) sz)) 0 0 (va_A (x_ws h cB cI n σ) sz) := by
  refine Met.ofW (cc := cX0_placeThroughS) (maxL := 7) (ret := (some .int)) (by decide) rfl ?_
  intro p e s m args below meth c s₁ B hml hv
  obtain ⟨rfl, hsz, hP, hK, hD0⟩ := hv
  have hx := B.exec
  have hb := B.bytes
  have hr := B.returns
  have hts : ∀ w ∈ bX0, w.before _ s = true := fun w h => atoms_spec (ws := wsX0_placeThroughS) B.pre w (List.mem_cons_of_mem _ h)
  have hown : s.vm.findClass RX0 = some m.cls := findClass_of_methodNamed B.named
  have hlocks := B.notSynchronized
  subst hsz
  have hD := hD0.self (sz := s.heap.size)
  generalize hAe : va_A (x_ws h cB cI n σ) s.heap.size = A at hD ⊢
  have hA : ∀ q : Nat, s.heap.size ≤ q → A q := fun q h => by rw [← hAe]; exact Or.inr h
  have hS : va_S A s.heap s.heap [] := va_S.rf
  have hP : va_P (dC, dI) vwCl (x_ws h cB cI n σ) s.heap := hP
  have hl := lv_entry ([.ref (h 0), .int a, .int b, .int kp]) (n := 7) (Nat.le_of_ble_eq_true rfl)
  rw [lg_entry_eq]
  generalize (lg_sl ([.ref (h 0), .int a, .int b, .int kp]) ++ List.replicate (7 - (lg_sl ([.ref (h 0), .int a, .int b, .int kp])).length) Slot.unset).toArray = ls at hl ⊢
  have hl : lv_has ls 7 [(0, .ref (h 0)), (1, .int a), (2, .int b), (3, .int kp)] := hl
  refine lv_iload_n hx hb dX0_placeThroughS_0 rfl (lv_at hl 1 rfl) ?_
  refine vp_callSi (W.runS (As := [.int a]) (rest := []) ⟨hx, hb, hml, hown, hts⟩ (c_x_regionOf l a ) (va_cwS 1 hts gX0_X0_regionOf rfl rfl rfl (by decide +kernel) ⟨Nat.le_of_ble_eq_true rfl, Nat.le_of_ble_eq_true rfl⟩) (fs_pre) rfl rfl hl.1 rfl (lv_room (Nat.le_of_ble_eq_true rfl)) dX0_placeThroughS_1 ⟨Nat.zero_le _, Nat.zero_le _⟩) (fun r er => ?_)
  subst er
  refine lv_iconst (v := 2) hx hb dX0_placeThroughS_4 (by decide) ?_
  refine lv_icmp_ne (tgt := 20) hx hb dX0_placeThroughS_5 (by decide) (fun c_1 => ?_) (fun c_1 => ?_)
  · refine lv_iconst (v := 3) hx hb dX0_placeThroughS_20 (by decide) ?_
    refine lv_iload_n hx hb dX0_placeThroughS_21 rfl (lv_at hl 2 rfl) ?_
    refine vp_callSi (W.runS (As := [.int 3, .int b]) (rest := []) ⟨hx, hb, hml, hown, hts⟩ (c_x_access l 3 b ) (va_cwS 2 hts gX0_X0_access rfl rfl rfl (by decide +kernel) ⟨Nat.le_of_ble_eq_true rfl, Nat.le_of_ble_eq_true rfl⟩) (fs_pre) rfl rfl hl.1 rfl (lv_room (Nat.le_of_ble_eq_true rfl)) dX0_placeThroughS_22 ⟨Nat.zero_le _, Nat.zero_le _⟩) (fun r er => ?_)
    subst er
    exact W.iret (v := (x_access 3 b)) hx hb hr (fun t ht hW => ⟨⟨(x_access 3 b), σ, rfl, (if_neg c_1).trans rfl, by rw [ht]; exact hP, va_K.moved hW.alike hK, hD⟩, hS.F ht⟩) hS.2.2 dX0_placeThroughS_25
  · refine lv_aload_n hx hb dX0_placeThroughS_8 rfl (lv_at hl 0 rfl) ?_
    refine lv_iconst (v := 2) hx hb dX0_placeThroughS_9 (by decide) ?_
    refine lv_iload_n hx hb dX0_placeThroughS_10 rfl (lv_at hl 1 rfl) ?_
    refine vp_callSi (W.runS (As := [.int a]) (rest := [.int 2, .ref (h 0)]) ⟨hx, hb, hml, hown, hts⟩ (c_x_pageOf l a ) (va_cwS 1 hts gX0_X0_pageOf rfl rfl rfl (by decide +kernel) ⟨Nat.le_of_ble_eq_true rfl, Nat.le_of_ble_eq_true rfl⟩) (fs_pre) rfl rfl hl.1 rfl (lv_room (Nat.le_of_ble_eq_true rfl)) dX0_placeThroughS_11 ⟨Nat.zero_le _, Nat.zero_le _⟩) (fun r er => ?_)
    subst er
    refine vp_callSi (W.runV (C := RX0) (As := [.int 2, .int (x_pageOf a)]) (rest := []) ⟨hx, hb, hml, hown, hts⟩ (c_x_inside l dC dI h cB cI n σ 2 (x_pageOf a) (vp_in_nI (n := 2) (by decide) (by decide))) (cwV 2 hts gX0_X0_inside rfl rfl rfl (by decide +kernel) ⟨Nat.le_of_ble_eq_true rfl, Nat.le_of_ble_eq_true rfl⟩) (x_preP hK hP) rfl rfl hl.1 rfl (lv_room (Nat.le_of_ble_eq_true rfl)) dX0_placeThroughS_14 ⟨Nat.zero_le _, Nat.zero_le _⟩) (fun r er => ?_)
    subst er
    refine lv_if_ne (tgt := 26) hx hb dX0_placeThroughS_17 (by decide) (fun c_2 => ?_) (fun c_2 => ?_)
    · refine lv_iload_n hx hb dX0_placeThroughS_26 rfl (lv_at hl 1 rfl) ?_
      refine vp_callSi (W.runS (As := [.int a]) (rest := []) ⟨hx, hb, hml, hown, hts⟩ (c_x_slotOf l a ) (va_cwS 1 hts gX0_X0_slotOf rfl rfl rfl (by decide +kernel) ⟨Nat.le_of_ble_eq_true rfl, Nat.le_of_ble_eq_true rfl⟩) (fs_pre) rfl rfl hl.1 rfl (lv_room (Nat.le_of_ble_eq_true rfl)) dX0_placeThroughS_27 ⟨Nat.zero_le _, Nat.zero_le _⟩) (fun r er => ?_)
      subst er
      refine lv_istore (lv' := [(4, .int (x_slotOf a)), (0, .ref (h 0)), (1, .int a), (2, .int b), (3, .int kp)]) hx hb dX0_placeThroughS_30 hl (by decide) rfl (fun ls hl => ?_)
      refine lv_aload_n hx hb dX0_placeThroughS_32 rfl (lv_at hl 1 rfl) ?_
      refine lv_iload hx hb dX0_placeThroughS_33 (lv_at hl 0 rfl) ?_
      refine lv_iload_n hx hb dX0_placeThroughS_35 rfl (lv_at hl 2 rfl) ?_
      refine vp_callSi (W.runV (C := RX0) (As := [.int (x_slotOf a), .int a]) (rest := []) ⟨hx, hb, hml, hown, hts⟩ (c_x_counts l dC dI h cB cI n σ (x_slotOf a) a (x_slot_in a)) (cwV 2 hts gX0_X0_counts rfl rfl rfl (by decide +kernel) ⟨Nat.le_of_ble_eq_true rfl, Nat.le_of_ble_eq_true rfl⟩) (x_preP hK hP) rfl rfl hl.1 rfl (lv_room (Nat.le_of_ble_eq_true rfl)) dX0_placeThroughS_36 ⟨Nat.zero_le _, Nat.zero_le _⟩) (fun r er => ?_)
      subst er
      refine lv_if_eq (tgt := 54) hx hb dX0_placeThroughS_39 (by decide) (fun c_3 => ?_) (fun c_3 => ?_)
      · refine lv_aload_n hx hb dX0_placeThroughS_54 rfl (lv_at hl 1 rfl) ?_
        refine va_get (D := (dC, dI)) (ci := 0) (v := .ref (h 2)) (C := RX0) (T := TX0) (N := 9) hx hb hts inbX0 hown hK hP 0 rfl rfl 1 (by decide) (hts _ bX0_1) (fun _ h9 => h9) rfl dX0_placeThroughS_55 ?_
        refine lv_iconst (v := 2) hx hb dX0_placeThroughS_58 (by decide) ?_
        refine va_iald hx hb hK hP 2 1 rfl rfl (vp_in_nI (n := 2) (by decide) (by decide)) dX0_placeThroughS_59 ?_
        refine lv_iconst (v := 4) hx hb dX0_placeThroughS_60 (by decide) ?_
        refine lv_iload_n hx hb dX0_placeThroughS_61 rfl (lv_at hl 2 rfl) ?_
        refine vp_callSi (W.runS (As := [.int a]) (rest := [.int 4, .int (x_bas σ (2 : Int32).toNatClampNeg)]) ⟨hx, hb, hml, hown, hts⟩ (c_x_pageOf l a ) (va_cwS 1 hts gX0_X0_pageOf rfl rfl rfl (by decide +kernel) ⟨Nat.le_of_ble_eq_true rfl, Nat.le_of_ble_eq_true rfl⟩) (fs_pre) rfl rfl hl.1 rfl (lv_room (Nat.le_of_ble_eq_true rfl)) dX0_placeThroughS_62 ⟨Nat.zero_le _, Nat.zero_le _⟩) (fun r er => ?_)
        subst er
        refine lv_imul hx hb dX0_placeThroughS_65 ?_
        refine lv_iadd hx hb dX0_placeThroughS_66 ?_
        refine lv_istore (lv' := [(5, .int ((x_bas σ (2 : Int32).toNatClampNeg) + ((4 : Int32) * (x_pageOf a)))), (4, .int (x_slotOf a)), (0, .ref (h 0)), (1, .int a), (2, .int b), (3, .int kp)]) hx hb dX0_placeThroughS_67 hl (by decide) rfl (fun ls hl => ?_)
        refine lv_aload_n hx hb dX0_placeThroughS_69 rfl (lv_at hl 2 rfl) ?_
        refine lv_iload hx hb dX0_placeThroughS_70 (lv_at hl 0 rfl) ?_
        refine lv_iconst (v := 4) hx hb dX0_placeThroughS_72 (by decide) ?_
        refine vp_callSi (W.runV (C := RX0) (As := [.int ((x_bas σ (2 : Int32).toNatClampNeg) + ((4 : Int32) * (x_pageOf a))), .int 4]) (rest := []) ⟨hx, hb, hml, hown, hts⟩ (c_x_inMemory l dC dI h cB cI n σ ((x_bas σ (2 : Int32).toNatClampNeg) + ((4 : Int32) * (x_pageOf a))) 4 ) (cwV 2 hts gX0_X0_inMemory rfl rfl rfl (by decide +kernel) ⟨Nat.le_of_ble_eq_true rfl, Nat.le_of_ble_eq_true rfl⟩) (x_preP hK hP) rfl rfl hl.1 rfl (lv_room (Nat.le_of_ble_eq_true rfl)) dX0_placeThroughS_73 ⟨Nat.zero_le _, Nat.zero_le _⟩) (fun r er => ?_)
        subst er
        refine lv_if_ne (tgt := 82) hx hb dX0_placeThroughS_76 (by decide) (fun c_4 => ?_) (fun c_4 => ?_)
        · refine lv_aload_n hx hb dX0_placeThroughS_82 rfl (lv_at hl 2 rfl) ?_
          refine lv_iload hx hb dX0_placeThroughS_83 (lv_at hl 0 rfl) ?_
          refine vp_callSi (W.runV (C := RX0) (As := [.int ((x_bas σ (2 : Int32).toNatClampNeg) + ((4 : Int32) * (x_pageOf a)))]) (rest := []) ⟨hx, hb, hml, hown, hts⟩ (c_x_entryAt l dC dI h cB cI n σ ((x_bas σ (2 : Int32).toNatClampNeg) + ((4 : Int32) * (x_pageOf a))) (x_inM4 hn c_4)) (cwV 1 hts gX0_X0_entryAt rfl rfl rfl (by decide +kernel) ⟨Nat.le_of_ble_eq_true rfl, Nat.le_of_ble_eq_true rfl⟩) (x_preP hK hP) rfl rfl hl.1 rfl (lv_room (Nat.le_of_ble_eq_true rfl)) dX0_placeThroughS_85 ⟨Nat.zero_le _, Nat.zero_le _⟩) (fun r er => ?_)
          subst er
          refine lv_istore (lv' := [(6, .int (x_entryAt n σ ((x_bas σ (2 : Int32).toNatClampNeg) + ((4 : Int32) * (x_pageOf a))))), (5, .int ((x_bas σ (2 : Int32).toNatClampNeg) + ((4 : Int32) * (x_pageOf a)))), (4, .int (x_slotOf a)), (0, .ref (h 0)), (1, .int a), (2, .int b), (3, .int kp)]) hx hb dX0_placeThroughS_88 hl (by decide) rfl (fun ls hl => ?_)
          refine lv_iload hx hb dX0_placeThroughS_90 (lv_at hl 0 rfl) ?_
          refine vp_callSi (W.runS (As := [.int (x_entryAt n σ ((x_bas σ (2 : Int32).toNatClampNeg) + ((4 : Int32) * (x_pageOf a))))]) (rest := []) ⟨hx, hb, hml, hown, hts⟩ (c_x_isValid l (x_entryAt n σ ((x_bas σ (2 : Int32).toNatClampNeg) + ((4 : Int32) * (x_pageOf a)))) ) (va_cwS 1 hts gX0_X0_isValid rfl rfl rfl (by decide +kernel) ⟨Nat.le_of_ble_eq_true rfl, Nat.le_of_ble_eq_true rfl⟩) (fs_pre) rfl rfl hl.1 rfl (lv_room (Nat.le_of_ble_eq_true rfl)) dX0_placeThroughS_92 ⟨Nat.zero_le _, Nat.zero_le _⟩) (fun r er => ?_)
          subst er
          refine lv_if_ne (tgt := 104) hx hb dX0_placeThroughS_95 (by decide) (fun c_5 => ?_) (fun c_5 => ?_)
          · refine lv_iload_n hx hb dX0_placeThroughS_104 rfl (lv_at hl 6 rfl) ?_
            refine lv_if_eq (tgt := 119) hx hb dX0_placeThroughS_105 (by decide) (fun c_6 => ?_) (fun c_6 => ?_)
            · refine lv_iload hx hb dX0_placeThroughS_119 (lv_at hl 0 rfl) ?_
              refine lv_iload_n hx hb dX0_placeThroughS_121 rfl (lv_at hl 4 rfl) ?_
              refine vp_callSi (W.runS (As := [.int (x_entryAt n σ ((x_bas σ (2 : Int32).toNatClampNeg) + ((4 : Int32) * (x_pageOf a)))), .int a]) (rest := []) ⟨hx, hb, hml, hown, hts⟩ (c_x_physical l (x_entryAt n σ ((x_bas σ (2 : Int32).toNatClampNeg) + ((4 : Int32) * (x_pageOf a)))) a ) (va_cwS 2 hts gX0_X0_physical rfl rfl rfl (by decide +kernel) ⟨Nat.le_of_ble_eq_true rfl, Nat.le_of_ble_eq_true rfl⟩) (fs_pre) rfl rfl hl.1 rfl (lv_room (Nat.le_of_ble_eq_true rfl)) dX0_placeThroughS_122 ⟨Nat.zero_le _, Nat.zero_le _⟩) (fun r er => ?_)
              subst er
              exact W.iret (v := (x_physical (x_entryAt n σ ((x_bas σ (2 : Int32).toNatClampNeg) + ((4 : Int32) * (x_pageOf a)))) a)) hx hb hr (fun t ht hW => ⟨⟨(x_physical (x_entryAt n σ ((x_bas σ (2 : Int32).toNatClampNeg) + ((4 : Int32) * (x_pageOf a)))) a), σ, rfl, (if_pos c_1).trans ((if_neg c_2).trans ((if_pos c_3).trans ((if_neg c_4).trans ((if_neg c_5).trans ((if_pos c_6).trans rfl))))), by rw [ht]; exact hP, va_K.moved hW.alike hK, hD⟩, hS.F ht⟩) hS.2.2 dX0_placeThroughS_125
            · refine lv_aload_n hx hb dX0_placeThroughS_108 rfl (lv_at hl 3 rfl) ?_
              refine lv_iload hx hb dX0_placeThroughS_109 (lv_at hl 2 rfl) ?_
              refine lv_iload_n hx hb dX0_placeThroughS_111 rfl (lv_at hl 4 rfl) ?_
              refine lv_iload hx hb dX0_placeThroughS_112 (lv_at hl 0 rfl) ?_
              refine lv_iload hx hb dX0_placeThroughS_114 (lv_at hl 1 rfl) ?_
              refine x_callv (f := (x_keepEntry n σ (x_slotOf a) a (x_entryAt n σ ((x_bas σ (2 : Int32).toNatClampNeg) + ((4 : Int32) * (x_pageOf a)))) ((x_bas σ (2 : Int32).toNatClampNeg) + ((4 : Int32) * (x_pageOf a))))) (va_runV (C := RX0) (As := [.int (x_slotOf a), .int a, .int (x_entryAt n σ ((x_bas σ (2 : Int32).toNatClampNeg) + ((4 : Int32) * (x_pageOf a)))), .int ((x_bas σ (2 : Int32).toNatClampNeg) + ((4 : Int32) * (x_pageOf a)))]) (rest := []) ⟨hx, hb, hml, hown, hts⟩ (c_x_keepEntry l dC dI h cB cI n _ σ (x_slotOf a) a (x_entryAt n σ ((x_bas σ (2 : Int32).toNatClampNeg) + ((4 : Int32) * (x_pageOf a)))) ((x_bas σ (2 : Int32).toNatClampNeg) + ((4 : Int32) * (x_pageOf a))) (x_slot_in a)) (cwV 4 hts gX0_X0_keepEntry rfl rfl rfl (by decide +kernel) ⟨Nat.le_of_ble_eq_true rfl, Nat.le_of_ble_eq_true rfl⟩) (x_preM hK hP hD) rfl rfl hl.1 rfl (lv_room (Nat.le_of_ble_eq_true rfl)) dX0_placeThroughS_116 ⟨Nat.zero_le _, Nat.zero_le _⟩) hP hD hS hA (fun t_7 H locs e_8 hP hD hS => ?_)
              refine lv_iload hx hb dX0_placeThroughS_119 (lv_at hl 0 rfl) ?_
              refine lv_iload_n hx hb dX0_placeThroughS_121 rfl (lv_at hl 4 rfl) ?_
              refine vp_callSi (W.runS (As := [.int (x_entryAt n σ ((x_bas σ (2 : Int32).toNatClampNeg) + ((4 : Int32) * (x_pageOf a)))), .int a]) (rest := []) ⟨hx, hb, hml, hown, hts⟩ (c_x_physical l (x_entryAt n σ ((x_bas σ (2 : Int32).toNatClampNeg) + ((4 : Int32) * (x_pageOf a)))) a ) (va_cwS 2 hts gX0_X0_physical rfl rfl rfl (by decide +kernel) ⟨Nat.le_of_ble_eq_true rfl, Nat.le_of_ble_eq_true rfl⟩) (fs_pre) rfl rfl hl.1 rfl (lv_room (Nat.le_of_ble_eq_true rfl)) dX0_placeThroughS_122 ⟨Nat.zero_le _, Nat.zero_le _⟩) (fun r er => ?_)
              subst er
              exact W.iret (v := (x_physical (x_entryAt n σ ((x_bas σ (2 : Int32).toNatClampNeg) + ((4 : Int32) * (x_pageOf a)))) a)) hx hb hr (fun t ht hW => ⟨⟨(x_physical (x_entryAt n σ ((x_bas σ (2 : Int32).toNatClampNeg) + ((4 : Int32) * (x_pageOf a)))) a), t_7, rfl, (if_pos c_1).trans ((if_neg c_2).trans ((if_pos c_3).trans ((if_neg c_4).trans ((if_neg c_5).trans ((if_neg c_6).trans ((kv_eq e_8).trans rfl)))))), by rw [ht]; exact hP, va_K.moved hW.alike hK, hD⟩, hS.F ht⟩) hS.2.2 dX0_placeThroughS_125
          · refine lv_iconst (v := 2) hx hb dX0_placeThroughS_98 (by decide) ?_
            refine lv_iload_n hx hb dX0_placeThroughS_99 rfl (lv_at hl 5 rfl) ?_
            refine vp_callSi (W.runS (As := [.int 2, .int b]) (rest := []) ⟨hx, hb, hml, hown, hts⟩ (c_x_missing l 2 b ) (va_cwS 2 hts gX0_X0_missing rfl rfl rfl (by decide +kernel) ⟨Nat.le_of_ble_eq_true rfl, Nat.le_of_ble_eq_true rfl⟩) (fs_pre) rfl rfl hl.1 rfl (lv_room (Nat.le_of_ble_eq_true rfl)) dX0_placeThroughS_100 ⟨Nat.zero_le _, Nat.zero_le _⟩) (fun r er => ?_)
            subst er
            exact W.iret (v := (x_missing 2 b)) hx hb hr (fun t ht hW => ⟨⟨(x_missing 2 b), σ, rfl, (if_pos c_1).trans ((if_neg c_2).trans ((if_pos c_3).trans ((if_neg c_4).trans ((if_pos c_5).trans rfl)))), by rw [ht]; exact hP, va_K.moved hW.alike hK, hD⟩, hS.F ht⟩) hS.2.2 dX0_placeThroughS_103
        · refine lv_bipush (v := (-100)) hx hb dX0_placeThroughS_79 (by decide) ?_
          exact W.iret (v := (-100)) hx hb hr (fun t ht hW => ⟨⟨(-100), σ, rfl, (if_pos c_1).trans ((if_neg c_2).trans ((if_pos c_3).trans ((if_pos c_4).trans rfl))), by rw [ht]; exact hP, va_K.moved hW.alike hK, hD⟩, hS.F ht⟩) hS.2.2 dX0_placeThroughS_81
      · refine lv_aload_n hx hb dX0_placeThroughS_42 rfl (lv_at hl 1 rfl) ?_
        refine va_get (D := (dC, dI)) (ci := 0) (v := .ref (h 5)) (C := RX0) (T := TX0) (N := 9) hx hb hts inbX0 hown hK hP 0 rfl rfl 6 (by decide) (hts _ bX0_6) (fun _ h9 => h9) rfl dX0_placeThroughS_43 ?_
        refine lv_iload hx hb dX0_placeThroughS_46 (lv_at hl 0 rfl) ?_
        refine va_iald hx hb hK hP 5 1 rfl rfl (x_slot_in a) dX0_placeThroughS_48 ?_
        refine lv_iload_n hx hb dX0_placeThroughS_49 rfl (lv_at hl 2 rfl) ?_
        refine vp_callSi (W.runS (As := [.int (x_ke σ ((x_slotOf a)).toNatClampNeg), .int a]) (rest := []) ⟨hx, hb, hml, hown, hts⟩ (c_x_physical l (x_ke σ ((x_slotOf a)).toNatClampNeg) a ) (va_cwS 2 hts gX0_X0_physical rfl rfl rfl (by decide +kernel) ⟨Nat.le_of_ble_eq_true rfl, Nat.le_of_ble_eq_true rfl⟩) (fs_pre) rfl rfl hl.1 rfl (lv_room (Nat.le_of_ble_eq_true rfl)) dX0_placeThroughS_50 ⟨Nat.zero_le _, Nat.zero_le _⟩) (fun r er => ?_)
        subst er
        exact W.iret (v := (x_physical (x_ke σ ((x_slotOf a)).toNatClampNeg) a)) hx hb hr (fun t ht hW => ⟨⟨(x_physical (x_ke σ ((x_slotOf a)).toNatClampNeg) a), σ, rfl, (if_pos c_1).trans ((if_neg c_2).trans ((if_neg c_3).trans rfl)), by rw [ht]; exact hP, va_K.moved hW.alike hK, hD⟩, hS.F ht⟩) hS.2.2 dX0_placeThroughS_53
    · refine lv_iconst (v := 3) hx hb dX0_placeThroughS_20 (by decide) ?_
      refine lv_iload_n hx hb dX0_placeThroughS_21 rfl (lv_at hl 2 rfl) ?_
      refine vp_callSi (W.runS (As := [.int 3, .int b]) (rest := []) ⟨hx, hb, hml, hown, hts⟩ (c_x_access l 3 b ) (va_cwS 2 hts gX0_X0_access rfl rfl rfl (by decide +kernel) ⟨Nat.le_of_ble_eq_true rfl, Nat.le_of_ble_eq_true rfl⟩) (fs_pre) rfl rfl hl.1 rfl (lv_room (Nat.le_of_ble_eq_true rfl)) dX0_placeThroughS_22 ⟨Nat.zero_le _, Nat.zero_le _⟩) (fun r er => ?_)
      subst er
      exact W.iret (v := (x_access 3 b)) hx hb hr (fun t ht hW => ⟨⟨(x_access 3 b), σ, rfl, (if_pos c_1).trans ((if_pos c_2).trans rfl), by rw [ht]; exact hP, va_K.moved hW.alike hK, hD⟩, hS.F ht⟩) hS.2.2 dX0_placeThroughS_25
set_option maxHeartbeats 4000000 in
set_option maxRecDepth 100000 in
theorem c_x_placeOfEntry (l : Launch) (dC : Nat → ClassId) (dI : Nat → Nat → Nat) (h : Nat → Nat) (cB cI : ClassId) (n : Nat) (sz : Nat) (σ : XS) (a : Int32) (b : Int32) (kp : Int32) (hn : n ≤ 2048) : Met l yX0_placeOfEntry wsX0_placeOfEntry ({ frames := 3, cells := 0, slots := 0, locals := 68 }) (va_Pc [.ref (h 0), .int a, .int b, .int kp] (x_BM dC dI h cB cI n sz σ)) (q_x_placeOfEntry dC dI h cB cI n σ a b kp (va_A (x_ws h cB cI n σ) sz)) 0 0 (va_A (x_ws h cB cI n σ) sz) := by
  refine Met.ofW (cc := cX0_placeOfEntry) (maxL := 8) (ret := (some .int)) (by decide) rfl ?_
  intro p e s m args below meth c s₁ B hml hv
  obtain ⟨rfl, hsz, hP, hK, hD0⟩ := hv
  have hx := B.exec
  have hb := B.bytes
  have hr := B.returns
  have hts : ∀ w ∈ bX0, w.before _ s = true := fun w h => atoms_spec (ws := wsX0_placeOfEntry) B.pre w (List.mem_cons_of_mem _ h)
  have hown : s.vm.findClass RX0 = some m.cls := findClass_of_methodNamed B.named
  have hlocks := B.notSynchronized
  subst hsz
  have hD := hD0.self (sz := s.heap.size)
  generalize hAe : va_A (x_ws h cB cI n σ) s.heap.size = A at hD ⊢
  have hA : ∀ q : Nat, s.heap.size ≤ q → A q := fun q h => by rw [← hAe]; exact Or.inr h
  have hS : va_S A s.heap s.heap [] := va_S.rf
  have hP : va_P (dC, dI) vwCl (x_ws h cB cI n σ) s.heap := hP
  have hl := lv_entry ([.ref (h 0), .int a, .int b, .int kp]) (n := 8) (Nat.le_of_ble_eq_true rfl)
  rw [lg_entry_eq]
  generalize (lg_sl ([.ref (h 0), .int a, .int b, .int kp]) ++ List.replicate (8 - (lg_sl ([.ref (h 0), .int a, .int b, .int kp])).length) Slot.unset).toArray = ls at hl ⊢
  have hl : lv_has ls 8 [(0, .ref (h 0)), (1, .int a), (2, .int b), (3, .int kp)] := hl
  refine lv_iload_n hx hb dX0_placeOfEntry_0 rfl (lv_at hl 1 rfl) ?_
  refine vp_callSi (W.runS (As := [.int a]) (rest := []) ⟨hx, hb, hml, hown, hts⟩ (c_x_regionOf l a ) (va_cwS 1 hts gX0_X0_regionOf rfl rfl rfl (by decide +kernel) ⟨Nat.le_of_ble_eq_true rfl, Nat.le_of_ble_eq_true rfl⟩) (fs_pre) rfl rfl hl.1 rfl (lv_room (Nat.le_of_ble_eq_true rfl)) dX0_placeOfEntry_1 ⟨Nat.zero_le _, Nat.zero_le _⟩) (fun r er => ?_)
  subst er
  refine lv_istore (lv' := [(4, .int (x_regionOf a)), (0, .ref (h 0)), (1, .int a), (2, .int b), (3, .int kp)]) hx hb dX0_placeOfEntry_4 hl (by decide) rfl (fun ls hl => ?_)
  refine lv_iload_n hx hb dX0_placeOfEntry_6 rfl (lv_at hl 2 rfl) ?_
  refine vp_callSi (W.runS (As := [.int a]) (rest := []) ⟨hx, hb, hml, hown, hts⟩ (c_x_pageOf l a ) (va_cwS 1 hts gX0_X0_pageOf rfl rfl rfl (by decide +kernel) ⟨Nat.le_of_ble_eq_true rfl, Nat.le_of_ble_eq_true rfl⟩) (fs_pre) rfl rfl hl.1 rfl (lv_room (Nat.le_of_ble_eq_true rfl)) dX0_placeOfEntry_7 ⟨Nat.zero_le _, Nat.zero_le _⟩) (fun r er => ?_)
  subst er
  refine lv_istore (lv' := [(5, .int (x_pageOf a)), (4, .int (x_regionOf a)), (0, .ref (h 0)), (1, .int a), (2, .int b), (3, .int kp)]) hx hb dX0_placeOfEntry_10 hl (by decide) rfl (fun ls hl => ?_)
  refine lv_aload_n hx hb dX0_placeOfEntry_12 rfl (lv_at hl 2 rfl) ?_
  refine lv_iload hx hb dX0_placeOfEntry_13 (lv_at hl 1 rfl) ?_
  refine lv_iload hx hb dX0_placeOfEntry_15 (lv_at hl 0 rfl) ?_
  refine vp_callSi (W.runV (C := RX0) (As := [.int (x_regionOf a), .int (x_pageOf a)]) (rest := []) ⟨hx, hb, hml, hown, hts⟩ (c_x_inside l dC dI h cB cI n σ (x_regionOf a) (x_pageOf a) (x_region_in a)) (cwV 2 hts gX0_X0_inside rfl rfl rfl (by decide +kernel) ⟨Nat.le_of_ble_eq_true rfl, Nat.le_of_ble_eq_true rfl⟩) (x_preP hK hP) rfl rfl hl.1 rfl (lv_room (Nat.le_of_ble_eq_true rfl)) dX0_placeOfEntry_17 ⟨Nat.zero_le _, Nat.zero_le _⟩) (fun r er => ?_)
  subst er
  refine lv_if_ne (tgt := 29) hx hb dX0_placeOfEntry_20 (by decide) (fun c_1 => ?_) (fun c_1 => ?_)
  · refine lv_aload_n hx hb dX0_placeOfEntry_29 rfl (lv_at hl 2 rfl) ?_
    refine va_get (D := (dC, dI)) (ci := 0) (v := .ref (h 2)) (C := RX0) (T := TX0) (N := 9) hx hb hts inbX0 hown hK hP 0 rfl rfl 1 (by decide) (hts _ bX0_1) (fun _ h9 => h9) rfl dX0_placeOfEntry_30 ?_
    refine lv_iload hx hb dX0_placeOfEntry_33 (lv_at hl 1 rfl) ?_
    refine va_iald hx hb hK hP 2 1 rfl rfl (x_inside_lt (x_region_in a) c_1) dX0_placeOfEntry_35 ?_
    refine lv_iconst (v := 4) hx hb dX0_placeOfEntry_36 (by decide) ?_
    refine lv_iload hx hb dX0_placeOfEntry_37 (lv_at hl 0 rfl) ?_
    refine lv_imul hx hb dX0_placeOfEntry_39 ?_
    refine lv_iadd hx hb dX0_placeOfEntry_40 ?_
    refine lv_istore (lv' := [(6, .int ((x_bas σ ((x_regionOf a)).toNatClampNeg) + ((4 : Int32) * (x_pageOf a)))), (5, .int (x_pageOf a)), (4, .int (x_regionOf a)), (0, .ref (h 0)), (1, .int a), (2, .int b), (3, .int kp)]) hx hb dX0_placeOfEntry_41 hl (by decide) rfl (fun ls hl => ?_)
    refine lv_iload hx hb dX0_placeOfEntry_43 (lv_at hl 2 rfl) ?_
    refine lv_iconst (v := 2) hx hb dX0_placeOfEntry_45 (by decide) ?_
    refine lv_icmp_ne (tgt := 54) hx hb dX0_placeOfEntry_46 (by decide) (fun c_2 => ?_) (fun c_2 => ?_)
    · refine lv_aload_n hx hb dX0_placeOfEntry_54 rfl (lv_at hl 3 rfl) ?_
      refine lv_iload hx hb dX0_placeOfEntry_55 (lv_at hl 0 rfl) ?_
      refine lv_ldc (v := 65535) hx hb hown (hts _ bX0_11) dX0_placeOfEntry_57 ?_
      refine lv_iand hx hb dX0_placeOfEntry_59 ?_
      refine lv_iload_n hx hb dX0_placeOfEntry_60 rfl (lv_at hl 5 rfl) ?_
      refine lv_iload_n hx hb dX0_placeOfEntry_61 rfl (lv_at hl 6 rfl) ?_
      refine x_calli (f := (x_placeThroughS n σ (((x_bas σ ((x_regionOf a)).toNatClampNeg) + ((4 : Int32) * (x_pageOf a))) &&& 65535) b kp)) (va_runV (C := RX0) (As := [.int (((x_bas σ ((x_regionOf a)).toNatClampNeg) + ((4 : Int32) * (x_pageOf a))) &&& 65535), .int b, .int kp]) (rest := []) ⟨hx, hb, hml, hown, hts⟩ (c_x_placeThroughS l dC dI h cB cI n _ σ (((x_bas σ ((x_regionOf a)).toNatClampNeg) + ((4 : Int32) * (x_pageOf a))) &&& 65535) b kp hn) (cwV 3 hts gX0_X0_placeThroughS rfl rfl rfl (by decide +kernel) ⟨Nat.le_of_ble_eq_true rfl, Nat.le_of_ble_eq_true rfl⟩) (x_preM hK hP hD) rfl rfl hl.1 rfl (lv_room (Nat.le_of_ble_eq_true rfl)) dX0_placeOfEntry_62 ⟨Nat.zero_le _, Nat.zero_le _⟩) hP hD hS hA (fun r_5 t_3 H locs e_4 hP hD hS => ?_)
      refine lv_istore (lv' := [(7, .int r_5), (6, .int ((x_bas σ ((x_regionOf a)).toNatClampNeg) + ((4 : Int32) * (x_pageOf a)))), (5, .int (x_pageOf a)), (4, .int (x_regionOf a)), (0, .ref (h 0)), (1, .int a), (2, .int b), (3, .int kp)]) hx hb dX0_placeOfEntry_65 hl (by decide) rfl (fun ls hl => ?_)
      refine lv_iload hx hb dX0_placeOfEntry_67 (lv_at hl 0 rfl) ?_
      refine lv_if_ge (tgt := 75) hx hb dX0_placeOfEntry_69 (by decide) (fun c_6 => ?_) (fun c_6 => ?_)
      · refine lv_aload_n hx hb dX0_placeOfEntry_75 rfl (lv_at hl 4 rfl) ?_
        refine lv_iload hx hb dX0_placeOfEntry_76 (lv_at hl 0 rfl) ?_
        refine lv_iconst (v := 4) hx hb dX0_placeOfEntry_78 (by decide) ?_
        refine vp_callSi (W.runV (C := RX0) (As := [.int r_5, .int 4]) (rest := []) ⟨hx, hb, hml, hown, hts⟩ (c_x_inMemory l dC dI h cB cI n t_3 r_5 4 ) (cwV 2 hts gX0_X0_inMemory rfl rfl rfl (by decide +kernel) ⟨Nat.le_of_ble_eq_true rfl, Nat.le_of_ble_eq_true rfl⟩) (x_preP hK hP) rfl rfl hl.1 rfl (lv_room (Nat.le_of_ble_eq_true rfl)) dX0_placeOfEntry_79 ⟨Nat.zero_le _, Nat.zero_le _⟩) (fun r er => ?_)
        subst er
        refine lv_if_eq (tgt := 90) hx hb dX0_placeOfEntry_82 (by decide) (fun c_7 => ?_) (fun c_7 => ?_)
        · refine lv_bipush (v := (-100)) hx hb dX0_placeOfEntry_90 (by decide) ?_
          exact W.iret (v := (-100)) hx hb hr (fun t ht hW => ⟨⟨(-100), t_3, rfl, (if_neg c_1).trans ((if_neg c_2).trans ((kb_eq e_4).trans ((if_pos c_6).trans ((if_pos c_7).trans rfl)))), by rw [ht]; exact hP, va_K.moved hW.alike hK, hD⟩, hS.F ht⟩) hS.2.2 dX0_placeOfEntry_92
        · refine lv_iload hx hb dX0_placeOfEntry_85 (lv_at hl 0 rfl) ?_
          refine lv_goto (tgt := 92) hx hb dX0_placeOfEntry_87 (by decide) ?_
          exact W.iret (v := r_5) hx hb hr (fun t ht hW => ⟨⟨r_5, t_3, rfl, (if_neg c_1).trans ((if_neg c_2).trans ((kb_eq e_4).trans ((if_pos c_6).trans ((if_neg c_7).trans rfl)))), by rw [ht]; exact hP, va_K.moved hW.alike hK, hD⟩, hS.F ht⟩) hS.2.2 dX0_placeOfEntry_92
      · refine lv_iload hx hb dX0_placeOfEntry_72 (lv_at hl 0 rfl) ?_
        exact W.iret (v := r_5) hx hb hr (fun t ht hW => ⟨⟨r_5, t_3, rfl, (if_neg c_1).trans ((if_neg c_2).trans ((kb_eq e_4).trans ((if_neg c_6).trans rfl))), by rw [ht]; exact hP, va_K.moved hW.alike hK, hD⟩, hS.F ht⟩) hS.2.2 dX0_placeOfEntry_74
    · refine lv_iload hx hb dX0_placeOfEntry_49 (lv_at hl 0 rfl) ?_
      refine lv_goto (tgt := 65) hx hb dX0_placeOfEntry_51 (by decide) ?_
      refine lv_istore (lv' := [(7, .int ((x_bas σ ((x_regionOf a)).toNatClampNeg) + ((4 : Int32) * (x_pageOf a)))), (6, .int ((x_bas σ ((x_regionOf a)).toNatClampNeg) + ((4 : Int32) * (x_pageOf a)))), (5, .int (x_pageOf a)), (4, .int (x_regionOf a)), (0, .ref (h 0)), (1, .int a), (2, .int b), (3, .int kp)]) hx hb dX0_placeOfEntry_65 hl (by decide) rfl (fun ls hl => ?_)
      refine lv_iload hx hb dX0_placeOfEntry_67 (lv_at hl 0 rfl) ?_
      refine lv_if_ge (tgt := 75) hx hb dX0_placeOfEntry_69 (by decide) (fun c_8 => ?_) (fun c_8 => ?_)
      · refine lv_aload_n hx hb dX0_placeOfEntry_75 rfl (lv_at hl 4 rfl) ?_
        refine lv_iload hx hb dX0_placeOfEntry_76 (lv_at hl 0 rfl) ?_
        refine lv_iconst (v := 4) hx hb dX0_placeOfEntry_78 (by decide) ?_
        refine vp_callSi (W.runV (C := RX0) (As := [.int ((x_bas σ ((x_regionOf a)).toNatClampNeg) + ((4 : Int32) * (x_pageOf a))), .int 4]) (rest := []) ⟨hx, hb, hml, hown, hts⟩ (c_x_inMemory l dC dI h cB cI n σ ((x_bas σ ((x_regionOf a)).toNatClampNeg) + ((4 : Int32) * (x_pageOf a))) 4 ) (cwV 2 hts gX0_X0_inMemory rfl rfl rfl (by decide +kernel) ⟨Nat.le_of_ble_eq_true rfl, Nat.le_of_ble_eq_true rfl⟩) (x_preP hK hP) rfl rfl hl.1 rfl (lv_room (Nat.le_of_ble_eq_true rfl)) dX0_placeOfEntry_79 ⟨Nat.zero_le _, Nat.zero_le _⟩) (fun r er => ?_)
        subst er
        refine lv_if_eq (tgt := 90) hx hb dX0_placeOfEntry_82 (by decide) (fun c_9 => ?_) (fun c_9 => ?_)
        · refine lv_bipush (v := (-100)) hx hb dX0_placeOfEntry_90 (by decide) ?_
          exact W.iret (v := (-100)) hx hb hr (fun t ht hW => ⟨⟨(-100), σ, rfl, (if_neg c_1).trans ((if_pos c_2).trans ((if_pos c_8).trans ((if_pos c_9).trans rfl))), by rw [ht]; exact hP, va_K.moved hW.alike hK, hD⟩, hS.F ht⟩) hS.2.2 dX0_placeOfEntry_92
        · refine lv_iload hx hb dX0_placeOfEntry_85 (lv_at hl 0 rfl) ?_
          refine lv_goto (tgt := 92) hx hb dX0_placeOfEntry_87 (by decide) ?_
          exact W.iret (v := ((x_bas σ ((x_regionOf a)).toNatClampNeg) + ((4 : Int32) * (x_pageOf a)))) hx hb hr (fun t ht hW => ⟨⟨((x_bas σ ((x_regionOf a)).toNatClampNeg) + ((4 : Int32) * (x_pageOf a))), σ, rfl, (if_neg c_1).trans ((if_pos c_2).trans ((if_pos c_8).trans ((if_neg c_9).trans rfl))), by rw [ht]; exact hP, va_K.moved hW.alike hK, hD⟩, hS.F ht⟩) hS.2.2 dX0_placeOfEntry_92
      · refine lv_iload hx hb dX0_placeOfEntry_72 (lv_at hl 0 rfl) ?_
        exact W.iret (v := ((x_bas σ ((x_regionOf a)).toNatClampNeg) + ((4 : Int32) * (x_pageOf a)))) hx hb hr (fun t ht hW => ⟨⟨((x_bas σ ((x_regionOf a)).toNatClampNeg) + ((4 : Int32) * (x_pageOf a))), σ, rfl, (if_neg c_1).trans ((if_pos c_2).trans ((if_neg c_8).trans rfl)), by rw [ht]; exact hP, va_K.moved hW.alike hK, hD⟩, hS.F ht⟩) hS.2.2 dX0_placeOfEntry_74
  · refine lv_iconst (v := 1) hx hb dX0_placeOfEntry_23 (by decide) ?_
    refine lv_iload_n hx hb dX0_placeOfEntry_24 rfl (lv_at hl 4 rfl) ?_
    refine vp_callSi (W.runS (As := [.int 1, .int b]) (rest := []) ⟨hx, hb, hml, hown, hts⟩ (c_x_access l 1 b ) (va_cwS 2 hts gX0_X0_access rfl rfl rfl (by decide +kernel) ⟨Nat.le_of_ble_eq_true rfl, Nat.le_of_ble_eq_true rfl⟩) (fs_pre) rfl rfl hl.1 rfl (lv_room (Nat.le_of_ble_eq_true rfl)) dX0_placeOfEntry_25 ⟨Nat.zero_le _, Nat.zero_le _⟩) (fun r er => ?_)
    subst er
    exact W.iret (v := (x_access 1 b)) hx hb hr (fun t ht hW => ⟨⟨(x_access 1 b), σ, rfl, (if_pos c_1).trans rfl, by rw [ht]; exact hP, va_K.moved hW.alike hK, hD⟩, hS.F ht⟩) hS.2.2 dX0_placeOfEntry_28
