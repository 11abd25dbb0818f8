set_option maxHeartbeats 4000000 in
set_option maxRecDepth 100000 in
theorem c_x_read (l : Launch) (dC : Nat → ClassId) (dI : Nat → Nat → Nat) (h : Nat → Nat) (cB cI : ClassId) (n : Nat) (tw tr : Nat) (sz : Nat) (σ : XS) (a : Int32) (ct : Int32) (md : Int32) (hn : n ≤ 2048) (hI : x_Inv n σ) : Met l yX0_read wsX0_read ({ frames := 6, cells := 0, slots := 0, locals := 150 }) (va_Pc [.ref (h 0), .int a, .int ct, .int md] (x_BMt dC dI h cB cI n tw tr sz σ)) (q_x_read dC dI h cB cI n σ a ct md (va_A (x_ws h cB cI n σ) sz)) 0 0 (va_A (x_ws h cB cI n σ) sz) := by
  refine Met.ofW (cc := cX0_read) (maxL := 8) (ret := (some .long)) (by decide) rfl ?_
  intro p e s m args below meth c s₁ B hml hv
  obtain ⟨rfl, hsz, hP, hK, hD0, hST⟩ := hv
  have hx := B.exec
  have hb := B.bytes
  have hr := B.returns
  have hts : ∀ w ∈ bX0, w.before _ s = true := fun w h => atoms_spec (ws := wsX0_read) B.pre w (List.mem_cons_of_mem _ h)
  have hown : s.vm.findClass RX0 = some m.cls := findClass_of_methodNamed B.named
  have hlocks := B.notSynchronized
  subst hsz
  have hD := hD0.self (sz := s.heap.size)
  generalize hAe : va_A (x_ws h cB cI n σ) s.heap.size = A at hD hST ⊢
  have hA : ∀ q : Nat, s.heap.size ≤ q → A q := fun q h => by rw [← hAe]; exact Or.inr h
  have hS : va_S A s.heap s.heap [] := va_S.rf
  have hP : va_P (dC, dI) vwCl (x_ws h cB cI n σ) s.heap := hP
  have hl := lv_entry ([.ref (h 0), .int a, .int ct, .int md]) (n := 8) (Nat.le_of_ble_eq_true rfl)
  rw [lg_entry_eq]
  generalize (lg_sl ([.ref (h 0), .int a, .int ct, .int md]) ++ List.replicate (8 - (lg_sl ([.ref (h 0), .int a, .int ct, .int md])).length) Slot.unset).toArray = ls at hl ⊢
  have hl : lv_has ls 8 [(0, .ref (h 0)), (1, .int a), (2, .int ct), (3, .int md)] := hl
  have key_l1 : ∀ (f j : Nat) (v : Int64) (i : Int32) (τ : XS) (H : Heap) (locs : List Loc) (ls : Array Slot), (i = nI j) → (j ≤ 4) → (5 ≤ j + f) → (∃ K : Nat, K ≤ 4 ∧ ct = nI K) → (∀ q : Nat, q < 4 → nI q < ct → vp_in (x_pl τ q) n) → x_read n σ a ct md = x_read_l1 n a ct md f v i τ → va_P (dC, dI) vwCl (x_ws h cB cI n τ) H → va_D A (x_ws h cB cI n τ) → va_S A s.heap H locs → lv_has ls 8 [(7, .int i), (5, .long v), (0, .ref (h 0)), (1, .int a), (2, .int ct), (3, .int md)] → W p l e (headSpec wsX0_read ({ frames := 6, cells := 0, slots := 0, locals := 150 })).room s m ([.ref (h 0), .int a, .int ct, .int md] : List Value).toArray below meth c H locs 0 0 (MQ below (q_x_read dC dI h cB cI n σ a ct md A) ([.ref (h 0), .int a, .int ct, .int md] : List Value).toArray s 0 0 A) (F0 m 36 ls []) := by
    intro f
    induction f with
    | zero => intro j v i τ H locs ls ej hj hf hc hq; exact absurd hf (by omega)
    | succ f ih =>
      intro j v i τ H locs ls ej hj hf hc hq hm hP hD hS hl
      refine lv_iload hx hb dX0_read_36 (lv_at hl 0 rfl) ?_
      refine lv_iload_n hx hb dX0_read_38 rfl (lv_at hl 4 rfl) ?_
      refine lv_icmp_ge (tgt := 71) hx hb dX0_read_39 (by decide) (fun c_101 => ?_) (fun c_101 => ?_)
      · refine lv_lload hx hb dX0_read_71 (lv_at hl 1 rfl) ?_
        exact W.lret (v := v) hx hb hr (fun t ht hW => ⟨⟨v, τ, rfl, hm.trans ((if_pos c_101).trans rfl), by rw [ht]; exact hP, va_K.moved hW.alike hK, hD⟩, hS.F ht⟩) hS.2.2 dX0_read_73
      · have hlt : j < 4 := x_ltK hc hj ej (by omega) c_101
        refine lv_lload hx hb dX0_read_42 (lv_at hl 1 rfl) ?_
        refine lv_aload_n hx hb dX0_read_44 rfl (lv_at hl 2 rfl) ?_
        refine lv_aload_n hx hb dX0_read_45 rfl (lv_at hl 2 rfl) ?_
        refine va_get (D := (dC, dI)) (ci := 0) (v := .ref (h 7)) (C := RX0) (T := TX0) (N := 9) hx hb hts inbX0 hown hK hP 0 rfl rfl 8 (by decide) (hts _ bX0_8) (fun _ h9 => h9) rfl dX0_read_46 ?_
        refine lv_iload hx hb dX0_read_49 (lv_at hl 0 rfl) ?_
        refine va_iald hx hb hK hP 7 1 rfl rfl (by rw [ej]; exact vp_in_nI hlt (by omega)) dX0_read_51 ?_
        refine vp_callSi (W.runV (C := RX0) (As := [.int (x_pl τ (i).toNatClampNeg)]) (rest := [.long v]) ⟨hx, hb, hml, hown, hts⟩ (c_x_byteAt l dC dI h cB cI n τ (x_pl τ (i).toNatClampNeg) (x_plat ej hlt hq c_101)) (cwV 1 hts gX0_X0_byteAt rfl rfl rfl (by decide +kernel) ⟨Nat.le_of_ble_eq_true rfl, Nat.le_of_ble_eq_true rfl⟩) (x_preP hK hP) rfl rfl hl.1 rfl (lv_room (Nat.le_of_ble_eq_true rfl)) dX0_read_52 ⟨Nat.zero_le _, Nat.zero_le _⟩) (fun r er => ?_)
        subst er
        refine lv_i2l (v := (((x_byteAt n τ (x_pl τ (i).toNatClampNeg))).toInt64)) hx hb dX0_read_55 rfl ?_
        refine lv_bipush (v := 8) hx hb dX0_read_56 (by decide) ?_
        refine lv_iload hx hb dX0_read_58 (lv_at hl 0 rfl) ?_
        refine lv_imul hx hb dX0_read_60 ?_
        refine lv_lshl (v := (jlshl (((x_byteAt n τ (x_pl τ (i).toNatClampNeg))).toInt64) ((8 : Int32) * i))) hx hb dX0_read_61 rfl ?_
        refine lv_lor hx hb dX0_read_62 ?_
        refine lv_lstore (lv' := [(5, .long (v ||| (jlshl (((x_byteAt n τ (x_pl τ (i).toNatClampNeg))).toInt64) ((8 : Int32) * i)))), (7, .int i), (0, .ref (h 0)), (1, .int a), (2, .int ct), (3, .int md)]) hx hb dX0_read_63 hl (by decide) rfl (fun ls hl => ?_)
        refine lv_iinc (v := (i + 1)) (lv' := [(7, .int (i + 1)), (5, .long (v ||| (jlshl (((x_byteAt n τ (x_pl τ (i).toNatClampNeg))).toInt64) ((8 : Int32) * i)))), (0, .ref (h 0)), (1, .int a), (2, .int ct), (3, .int md)]) hx hb dX0_read_65 hl (k := 1) rfl rfl (by decide) rfl (fun ls hl => ?_)
        refine lv_goto (tgt := 36) hx hb dX0_read_68 (by decide) ?_
        exact ih (j + 1) (v ||| (jlshl (((x_byteAt n τ (x_pl τ (i).toNatClampNeg))).toInt64) ((8 : Int32) * i))) (i + 1) τ _ _ _ (by rw [ej]; exact nI_1 j) (by omega) (by omega) hc hq (hm.trans ((if_neg c_101).trans rfl)) hP hD hS (lv_sub hl [0, 1, 2, 3, 4, 5] rfl)
  refine lv_iload_n hx hb dX0_read_0 rfl (lv_at hl 2 rfl) ?_
  refine vp_callSi (W.runS (As := [.int ct]) (rest := []) ⟨hx, hb, hml, hown, hts⟩ (c_x_isCount l ct ) (va_cwS 1 hts gX0_X0_isCount rfl rfl rfl (by decide +kernel) ⟨Nat.le_of_ble_eq_true rfl, Nat.le_of_ble_eq_true rfl⟩) (fs_pre) rfl rfl hl.1 rfl (lv_room (Nat.le_of_ble_eq_true rfl)) dX0_read_1 ⟨Nat.zero_le _, Nat.zero_le _⟩) (fun r er => ?_)
  subst er
  refine lv_if_ne (tgt := 11) hx hb dX0_read_4 (by decide) (fun c_1 => ?_) (fun c_1 => ?_)
  · refine lv_aload_n hx hb dX0_read_11 rfl (lv_at hl 0 rfl) ?_
    refine lv_iload_n hx hb dX0_read_12 rfl (lv_at hl 1 rfl) ?_
    refine lv_iload_n hx hb dX0_read_13 rfl (lv_at hl 2 rfl) ?_
    refine lv_iload_n hx hb dX0_read_14 rfl (lv_at hl 3 rfl) ?_
    refine lv_iconst (v := 0) hx hb dX0_read_15 (by decide) ?_
    refine x_calli (f := (x_findPlaces n σ a ct md 0)) (va_runV (C := RX0) (As := [.int a, .int ct, .int md, .int 0]) (rest := []) ⟨hx, hb, hml, hown, hts⟩ (c_x_findPlaces l dC dI h cB cI n tw tr _ σ a ct md 0 hn hI (x_cnt4 c_1)) (cwV 4 hts gX0_X0_findPlaces rfl rfl rfl (by decide +kernel) ⟨Nat.le_of_ble_eq_true rfl, Nat.le_of_ble_eq_true rfl⟩) (x_preMt hK hP hD hST hS hA) rfl rfl hl.1 rfl (lv_room (Nat.le_of_ble_eq_true rfl)) dX0_read_16 ⟨Nat.zero_le _, Nat.zero_le _⟩) hP hD hS hA (fun r_4 t_2 H locs e_3 hP hD hS => ?_)
    refine lv_istore (lv' := [(4, .int r_4), (0, .ref (h 0)), (1, .int a), (2, .int ct), (3, .int md)]) hx hb dX0_read_19 hl (by decide) rfl (fun ls hl => ?_)
    refine lv_iload hx hb dX0_read_21 (lv_at hl 0 rfl) ?_
    refine lv_if_eq (tgt := 30) hx hb dX0_read_23 (by decide) (fun c_5 => ?_) (fun c_5 => ?_)
    · refine lv_lconst (v := 0) hx hb dX0_read_30 (by decide) ?_
      refine lv_lstore (lv' := [(5, .long 0), (4, .int r_4), (0, .ref (h 0)), (1, .int a), (2, .int ct), (3, .int md)]) hx hb dX0_read_31 hl (by decide) rfl (fun ls hl => ?_)
      refine lv_iconst (v := 0) hx hb dX0_read_33 (by decide) ?_
      refine lv_istore (lv' := [(7, .int 0), (5, .long 0), (4, .int r_4), (0, .ref (h 0)), (1, .int a), (2, .int ct), (3, .int md)]) hx hb dX0_read_34 hl (by decide) rfl (fun ls hl => ?_)
      exact key_l1 5 0 0 0 t_2 _ _ _ nI_0.symm (by omega) (by omega) (x_cnt4 c_1) (x_fp_in hn hI c_1 e_3 c_5) ((if_neg c_1).trans ((kb_eq e_3).trans ((if_pos c_5).trans rfl))) hP hD hS (lv_sub hl [0, 1, 3, 4, 5, 6] rfl)
    · refine lv_iload hx hb dX0_read_26 (lv_at hl 0 rfl) ?_
      refine lv_i2l (v := ((r_4).toInt64)) hx hb dX0_read_28 rfl ?_
      exact W.lret (v := ((r_4).toInt64)) hx hb hr (fun t ht hW => ⟨⟨((r_4).toInt64), t_2, rfl, (if_neg c_1).trans ((kb_eq e_3).trans ((if_neg c_5).trans rfl)), by rw [ht]; exact hP, va_K.moved hW.alike hK, hD⟩, hS.F ht⟩) hS.2.2 dX0_read_29
  · refine lv_ldc2 (v := (-101)) hx hb hown (hts _ bX0_12) dX0_read_7 ?_
    exact W.lret (v := (-101)) hx hb hr (fun t ht hW => ⟨⟨(-101), σ, rfl, (if_pos c_1).trans rfl, by rw [ht]; exact hP, va_K.moved hW.alike hK, hD⟩, hS.F ht⟩) hS.2.2 dX0_read_10
set_option maxHeartbeats 4000000 in
set_option maxRecDepth 100000 in
theorem c_x_write (l : Launch) (dC : Nat → ClassId) (dI : Nat → Nat → Nat) (h : Nat → Nat) (cB cI : ClassId) (n : Nat) (tw tr : Nat) (sz : Nat) (σ : XS) (a : Int32) (ct : Int32) (v : Int32) (md : Int32) (hn : n ≤ 2048) (hI : x_Inv n σ) : Met l yX0_write wsX0_write ({ frames := 6, cells := 0, slots := 0, locals := 150 }) (va_Pc [.ref (h 0), .int a, .int ct, .int v, .int md] (x_BMt dC dI h cB cI n tw tr sz σ)) (q_x_write dC dI h cB cI n σ a ct v md (va_A (x_ws h cB cI n σ) sz)) 0 0 (va_A (x_ws h cB cI n σ) sz) := by
  refine Met.ofW (cc := cX0_write) (maxL := 7) (ret := (some .int)) (by decide) rfl ?_
  intro p e s m args below meth c s₁ B hml hv
  obtain ⟨rfl, hsz, hP, hK, hD0, hST⟩ := hv
  have hx := B.exec
  have hb := B.bytes
  have hr := B.returns
  have hts : ∀ w ∈ bX0, w.before _ s = true := fun w h => atoms_spec (ws := wsX0_write) B.pre w (List.mem_cons_of_mem _ h)
  have hown : s.vm.findClass RX0 = some m.cls := findClass_of_methodNamed B.named
  have hlocks := B.notSynchronized
  subst hsz
  have hD := hD0.self (sz := s.heap.size)
  generalize hAe : va_A (x_ws h cB cI n σ) s.heap.size = A at hD hST ⊢
  have hA : ∀ q : Nat, s.heap.size ≤ q → A q := fun q h => by rw [← hAe]; exact Or.inr h
  have hS : va_S A s.heap s.heap [] := va_S.rf
  have hP : va_P (dC, dI) vwCl (x_ws h cB cI n σ) s.heap := hP
  have hl := lv_entry ([.ref (h 0), .int a, .int ct, .int v, .int md]) (n := 7) (Nat.le_of_ble_eq_true rfl)
  rw [lg_entry_eq]
  generalize (lg_sl ([.ref (h 0), .int a, .int ct, .int v, .int md]) ++ List.replicate (7 - (lg_sl ([.ref (h 0), .int a, .int ct, .int v, .int md])).length) Slot.unset).toArray = ls at hl ⊢
  have hl : lv_has ls 7 [(0, .ref (h 0)), (1, .int a), (2, .int ct), (3, .int v), (4, .int md)] := hl
  have key_l1 : ∀ (f j : Nat) (i : Int32) (τ : XS) (H : Heap) (locs : List Loc) (ls : Array Slot), (i = nI j) → (j ≤ 4) → (5 ≤ j + f) → (∃ K : Nat, K ≤ 4 ∧ ct = nI K) → (∀ q : Nat, q < 4 → nI q < ct → vp_in (x_pl τ q) n) → x_write n σ a ct v md = x_write_l1 n a ct v md f i τ → va_P (dC, dI) vwCl (x_ws h cB cI n τ) H → va_D A (x_ws h cB cI n τ) → va_S A s.heap H locs → lv_has ls 7 [(6, .int i), (0, .ref (h 0)), (1, .int a), (2, .int ct), (3, .int v), (4, .int md)] → W p l e (headSpec wsX0_write ({ frames := 6, cells := 0, slots := 0, locals := 150 })).room s m ([.ref (h 0), .int a, .int ct, .int v, .int md] : List Value).toArray below meth c H locs 0 0 (MQ below (q_x_write dC dI h cB cI n σ a ct v md A) ([.ref (h 0), .int a, .int ct, .int v, .int md] : List Value).toArray s 0 0 A) (F0 m 32 ls []) := by
    intro f
    induction f with
    | zero => intro j i τ H locs ls ej hj hf hc hq; exact absurd hf (by omega)
    | succ f ih =>
      intro j i τ H locs ls ej hj hf hc hq hm hP hD hS hl
      refine lv_iload hx hb dX0_write_32 (lv_at hl 0 rfl) ?_
      refine lv_iload_n hx hb dX0_write_34 rfl (lv_at hl 3 rfl) ?_
      refine lv_icmp_ge (tgt := 64) hx hb dX0_write_35 (by decide) (fun c_101 => ?_) (fun c_101 => ?_)
      · refine lv_iconst (v := 0) hx hb dX0_write_64 (by decide) ?_
        exact W.iret (v := 0) hx hb hr (fun t ht hW => ⟨⟨0, τ, rfl, hm.trans ((if_pos c_101).trans rfl), by rw [ht]; exact hP, va_K.moved hW.alike hK, hD⟩, hS.F ht⟩) hS.2.2 dX0_write_65
      · have hlt : j < 4 := x_ltK hc hj ej (by omega) c_101
        refine lv_aload_n hx hb dX0_write_38 rfl (lv_at hl 1 rfl) ?_
        refine va_get (D := (dC, dI)) (ci := 0) (v := .ref (h 1)) (C := RX0) (T := TX0) (N := 9) hx hb hts inbX0 hown hK hP 0 rfl rfl 0 (by decide) (hts _ bX0_0) (fun _ h9 => h9) rfl dX0_write_39 ?_
        refine lv_aload_n hx hb dX0_write_42 rfl (lv_at hl 1 rfl) ?_
        refine va_get (D := (dC, dI)) (ci := 0) (v := .ref (h 7)) (C := RX0) (T := TX0) (N := 9) hx hb hts inbX0 hown hK hP 0 rfl rfl 8 (by decide) (hts _ bX0_8) (fun _ h9 => h9) rfl dX0_write_43 ?_
        refine lv_iload hx hb dX0_write_46 (lv_at hl 0 rfl) ?_
        refine va_iald hx hb hK hP 7 1 rfl rfl (by rw [ej]; exact vp_in_nI hlt (by omega)) dX0_write_48 ?_
        refine lv_iload_n hx hb dX0_write_49 rfl (lv_at hl 4 rfl) ?_
        refine lv_bipush (v := 8) hx hb dX0_write_50 (by decide) ?_
        refine lv_iload hx hb dX0_write_52 (lv_at hl 0 rfl) ?_
        refine lv_imul hx hb dX0_write_54 ?_
        refine lv_iushr (v := (jushr v ((8 : Int32) * i))) hx hb dX0_write_55 rfl ?_
        refine lv_i2b (v := (((jushr v ((8 : Int32) * i))).toInt8.toInt32)) hx hb dX0_write_56 rfl ?_
        refine va_bast hx hb hK hP hD hS 1 0 rfl rfl (x_plat ej hlt hq c_101) dX0_write_57 (fun H locs hP hD hS => ?_)
        have hP : va_P (dC, dI) vwCl (x_ws h cB cI n (x_sMem τ (upd (x_mem τ) (((x_pl τ (i).toNatClampNeg)).toNatClampNeg) (vp_nar .byte (((jushr v ((8 : Int32) * i))).toInt8.toInt32))))) H := hP
        have hD : va_D A (x_ws h cB cI n (x_sMem τ (upd (x_mem τ) (((x_pl τ (i).toNatClampNeg)).toNatClampNeg) (vp_nar .byte (((jushr v ((8 : Int32) * i))).toInt8.toInt32))))) := hD
        refine lv_iinc (v := (i + 1)) (lv' := [(6, .int (i + 1)), (0, .ref (h 0)), (1, .int a), (2, .int ct), (3, .int v), (4, .int md)]) hx hb dX0_write_58 hl (k := 0) rfl rfl (by decide) rfl (fun ls hl => ?_)
        refine lv_goto (tgt := 32) hx hb dX0_write_61 (by decide) ?_
        exact ih (j + 1) (i + 1) (x_sMem τ (upd (x_mem τ) (((x_pl τ (i).toNatClampNeg)).toNatClampNeg) (vp_nar .byte (((jushr v ((8 : Int32) * i))).toInt8.toInt32)))) _ _ _ (by rw [ej]; exact nI_1 j) (by omega) (by omega) hc hq (hm.trans ((if_neg c_101).trans rfl)) hP hD hS (lv_sub hl [0, 1, 2, 3, 4, 5] rfl)
  refine lv_iload_n hx hb dX0_write_0 rfl (lv_at hl 2 rfl) ?_
  refine vp_callSi (W.runS (As := [.int ct]) (rest := []) ⟨hx, hb, hml, hown, hts⟩ (c_x_isCount l ct ) (va_cwS 1 hts gX0_X0_isCount rfl rfl rfl (by decide +kernel) ⟨Nat.le_of_ble_eq_true rfl, Nat.le_of_ble_eq_true rfl⟩) (fs_pre) rfl rfl hl.1 rfl (lv_room (Nat.le_of_ble_eq_true rfl)) dX0_write_1 ⟨Nat.zero_le _, Nat.zero_le _⟩) (fun r er => ?_)
  subst er
  refine lv_if_ne (tgt := 10) hx hb dX0_write_4 (by decide) (fun c_1 => ?_) (fun c_1 => ?_)
  · refine lv_aload_n hx hb dX0_write_10 rfl (lv_at hl 0 rfl) ?_
    refine lv_iload_n hx hb dX0_write_11 rfl (lv_at hl 1 rfl) ?_
    refine lv_iload_n hx hb dX0_write_12 rfl (lv_at hl 2 rfl) ?_
    refine lv_iload hx hb dX0_write_13 (lv_at hl 4 rfl) ?_
    refine lv_iconst (v := 1) hx hb dX0_write_15 (by decide) ?_
    refine x_calli (f := (x_findPlaces n σ a ct md 1)) (va_runV (C := RX0) (As := [.int a, .int ct, .int md, .int 1]) (rest := []) ⟨hx, hb, hml, hown, hts⟩ (c_x_findPlaces l dC dI h cB cI n tw tr _ σ a ct md 1 hn hI (x_cnt4 c_1)) (cwV 4 hts gX0_X0_findPlaces rfl rfl rfl (by decide +kernel) ⟨Nat.le_of_ble_eq_true rfl, Nat.le_of_ble_eq_true rfl⟩) (x_preMt hK hP hD hST hS hA) rfl rfl hl.1 rfl (lv_room (Nat.le_of_ble_eq_true rfl)) dX0_write_16 ⟨Nat.zero_le _, Nat.zero_le _⟩) hP hD hS hA (fun r_4 t_2 H locs e_3 hP hD hS => ?_)
    refine lv_istore (lv' := [(5, .int r_4), (0, .ref (h 0)), (1, .int a), (2, .int ct), (3, .int v), (4, .int md)]) hx hb dX0_write_19 hl (by decide) rfl (fun ls hl => ?_)
    refine lv_iload hx hb dX0_write_21 (lv_at hl 0 rfl) ?_
    refine lv_if_eq (tgt := 29) hx hb dX0_write_23 (by decide) (fun c_5 => ?_) (fun c_5 => ?_)
    · refine lv_iconst (v := 0) hx hb dX0_write_29 (by decide) ?_
      refine lv_istore (lv' := [(6, .int 0), (5, .int r_4), (0, .ref (h 0)), (1, .int a), (2, .int ct), (3, .int v), (4, .int md)]) hx hb dX0_write_30 hl (by decide) rfl (fun ls hl => ?_)
      exact key_l1 5 0 0 t_2 _ _ _ nI_0.symm (by omega) (by omega) (x_cnt4 c_1) (x_fp_in hn hI c_1 e_3 c_5) ((if_neg c_1).trans ((kb_eq e_3).trans ((if_pos c_5).trans rfl))) hP hD hS (lv_sub hl [0, 2, 3, 4, 5, 6] rfl)
    · refine lv_iload hx hb dX0_write_26 (lv_at hl 0 rfl) ?_
      exact W.iret (v := r_4) hx hb hr (fun t ht hW => ⟨⟨r_4, t_2, rfl, (if_neg c_1).trans ((kb_eq e_3).trans ((if_neg c_5).trans rfl)), by rw [ht]; exact hP, va_K.moved hW.alike hK, hD⟩, hS.F ht⟩) hS.2.2 dX0_write_28
  · refine lv_bipush (v := (-101)) hx hb dX0_write_7 (by decide) ?_
    exact W.iret (v := (-101)) hx hb hr (fun t ht hW => ⟨⟨(-101), σ, rfl, (if_pos c_1).trans rfl, by rw [ht]; exact hP, va_K.moved hW.alike hK, hD⟩, hS.F ht⟩) hS.2.2 dX0_write_9
set_option maxHeartbeats 4000000 in
set_option maxRecDepth 100000 in
theorem c_x_where (l : Launch) (dC : Nat → ClassId) (dI : Nat → Nat → Nat) (h : Nat → Nat) (cB cI : ClassId) (n : Nat) (tw tr : Nat) (sz : Nat) (σ : XS) (a : Int32) (md : Int32) (b : Int32) (hn : n ≤ 2048) (hI : x_Inv n σ) : Met l yX0_where wsX0_where ({ frames := 5, cells := 0, slots := 0, locals := 123 }) (va_Pc [.ref (h 0), .int a, .int md, .int b] (x_BMt dC dI h cB cI n tw tr sz σ)) (q_x_where dC dI h cB cI n σ a md b (va_A (x_ws h cB cI n σ) sz)) 0 0 (va_A (x_ws h cB cI n σ) sz) := by
  refine Met.ofW (cc := cX0_where) (maxL := 5) (ret := (some .int)) (by decide) rfl ?_
  intro p e s m args below meth c s₁ B hml hv
  obtain ⟨rfl, hsz, hP, hK, hD0, hST⟩ := hv
  have hx := B.exec
  have hb := B.bytes
  have hr := B.returns
  have hts : ∀ w ∈ bX0, w.before _ s = true := fun w h => atoms_spec (ws := wsX0_where) B.pre w (List.mem_cons_of_mem _ h)
  have hown : s.vm.findClass RX0 = some m.cls := findClass_of_methodNamed B.named
  have hlocks := B.notSynchronized
  subst hsz
  have hD := hD0.self (sz := s.heap.size)
  generalize hAe : va_A (x_ws h cB cI n σ) s.heap.size = A at hD hST ⊢
  have hA : ∀ q : Nat, s.heap.size ≤ q → A q := fun q h => by rw [← hAe]; exact Or.inr h
  have hS : va_S A s.heap s.heap [] := va_S.rf
  have hP : va_P (dC, dI) vwCl (x_ws h cB cI n σ) s.heap := hP
  have hl := lv_entry ([.ref (h 0), .int a, .int md, .int b]) (n := 5) (Nat.le_of_ble_eq_true rfl)
  rw [lg_entry_eq]
  generalize (lg_sl ([.ref (h 0), .int a, .int md, .int b]) ++ List.replicate (5 - (lg_sl ([.ref (h 0), .int a, .int md, .int b])).length) Slot.unset).toArray = ls at hl ⊢
  have hl : lv_has ls 5 [(0, .ref (h 0)), (1, .int a), (2, .int md), (3, .int b)] := hl
  refine lv_aload_n hx hb dX0_where_0 rfl (lv_at hl 0 rfl) ?_
  refine lv_iload_n hx hb dX0_where_1 rfl (lv_at hl 1 rfl) ?_
  refine lv_ldc (v := 65535) hx hb hown (hts _ bX0_11) dX0_where_2 ?_
  refine lv_iand hx hb dX0_where_4 ?_
  refine lv_iload_n hx hb dX0_where_5 rfl (lv_at hl 2 rfl) ?_
  refine lv_iload_n hx hb dX0_where_6 rfl (lv_at hl 3 rfl) ?_
  refine lv_iconst (v := 0) hx hb dX0_where_7 (by decide) ?_
  refine x_calli (f := (x_translate n σ (a &&& 65535) md b 0)) (va_runV (C := RX0) (As := [.int (a &&& 65535), .int md, .int b, .int 0]) (rest := []) ⟨hx, hb, hml, hown, hts⟩ (c_x_translate l dC dI h cB cI n tw tr _ σ (a &&& 65535) md b 0 hn hI (x_mask16 _)) (cwV 4 hts gX0_X0_translate rfl rfl rfl (by decide +kernel) ⟨Nat.le_of_ble_eq_true rfl, Nat.le_of_ble_eq_true rfl⟩) (x_preMt hK hP hD hST hS hA) rfl rfl hl.1 rfl (lv_room (Nat.le_of_ble_eq_true rfl)) dX0_where_8 ⟨Nat.zero_le _, Nat.zero_le _⟩) hP hD hS hA (fun r_3 t_1 H locs e_2 hP hD hS => ?_)
  refine lv_istore (lv' := [(4, .int r_3), (0, .ref (h 0)), (1, .int a), (2, .int md), (3, .int b)]) hx hb dX0_where_11 hl (by decide) rfl (fun ls hl => ?_)
  refine lv_iload hx hb dX0_where_13 (lv_at hl 0 rfl) ?_
  refine lv_if_ge (tgt := 21) hx hb dX0_where_15 (by decide) (fun c_4 => ?_) (fun c_4 => ?_)
  · refine lv_aload_n hx hb dX0_where_21 rfl (lv_at hl 1 rfl) ?_
    refine lv_iload hx hb dX0_where_22 (lv_at hl 0 rfl) ?_
    refine lv_iconst (v := 1) hx hb dX0_where_24 (by decide) ?_
    refine vp_callSi (W.runV (C := RX0) (As := [.int r_3, .int 1]) (rest := []) ⟨hx, hb, hml, hown, hts⟩ (c_x_inMemory l dC dI h cB cI n t_1 r_3 1 ) (cwV 2 hts gX0_X0_inMemory rfl rfl rfl (by decide +kernel) ⟨Nat.le_of_ble_eq_true rfl, Nat.le_of_ble_eq_true rfl⟩) (x_preP hK hP) rfl rfl hl.1 rfl (lv_room (Nat.le_of_ble_eq_true rfl)) dX0_where_25 ⟨Nat.zero_le _, Nat.zero_le _⟩) (fun r er => ?_)
    subst er
    refine lv_if_eq (tgt := 36) hx hb dX0_where_28 (by decide) (fun c_5 => ?_) (fun c_5 => ?_)
    · refine lv_bipush (v := (-100)) hx hb dX0_where_36 (by decide) ?_
      exact W.iret (v := (-100)) hx hb hr (fun t ht hW => ⟨⟨(-100), t_1, rfl, (kb_eq e_2).trans ((if_pos c_4).trans ((if_pos c_5).trans rfl)), by rw [ht]; exact hP, va_K.moved hW.alike hK, hD⟩, hS.F ht⟩) hS.2.2 dX0_where_38
    · refine lv_iload hx hb dX0_where_31 (lv_at hl 0 rfl) ?_
      refine lv_goto (tgt := 38) hx hb dX0_where_33 (by decide) ?_
      exact W.iret (v := r_3) hx hb hr (fun t ht hW => ⟨⟨r_3, t_1, rfl, (kb_eq e_2).trans ((if_pos c_4).trans ((if_neg c_5).trans rfl)), by rw [ht]; exact hP, va_K.moved hW.alike hK, hD⟩, hS.F ht⟩) hS.2.2 dX0_where_38
  · refine lv_iload hx hb dX0_where_18 (lv_at hl 0 rfl) ?_
    exact W.iret (v := r_3) hx hb hr (fun t ht hW => ⟨⟨r_3, t_1, rfl, (kb_eq e_2).trans ((if_neg c_4).trans rfl), by rw [ht]; exact hP, va_K.moved hW.alike hK, hD⟩, hS.F ht⟩) hS.2.2 dX0_where_20
set_option maxHeartbeats 4000000 in
set_option maxRecDepth 100000 in
theorem c_x_may (l : Launch) (dC : Nat → ClassId) (dI : Nat → Nat → Nat) (h : Nat → Nat) (cB cI : ClassId) (n : Nat) (tw tr : Nat) (sz : Nat) (σ : XS) (a : Int32) (md : Int32) (b : Int32) (hn : n ≤ 2048) : Met l yX0_may wsX0_may ({ frames := 4, cells := 0, slots := 0, locals := 95 }) (va_Pc [.ref (h 0), .int a, .int md, .int b] (x_BMt dC dI h cB cI n tw tr sz σ)) (q_x_may dC dI h cB cI n σ a md b (va_A (x_ws h cB cI n σ) sz)) 0 0 (va_A (x_ws h cB cI n σ) sz) := by
  refine Met.ofW (cc := cX0_may) (maxL := 7) (ret := (some .int)) (by decide) rfl ?_
  intro p e s m args below meth c s₁ B hml hv
  obtain ⟨rfl, hsz, hP, hK, hD0, hST⟩ := hv
  have hx := B.exec
  have hb := B.bytes
  have hr := B.returns
  have hts : ∀ w ∈ bX0, w.before _ s = true := fun w h => atoms_spec (ws := wsX0_may) B.pre w (List.mem_cons_of_mem _ h)
  have hown : s.vm.findClass RX0 = some m.cls := findClass_of_methodNamed B.named
  have hlocks := B.notSynchronized
  subst hsz
  have hD := hD0.self (sz := s.heap.size)
  generalize hAe : va_A (x_ws h cB cI n σ) s.heap.size = A at hD hST ⊢
  have hA : ∀ q : Nat, s.heap.size ≤ q → A q := fun q h => by rw [← hAe]; exact Or.inr h
  have hS : va_S A s.heap s.heap [] := va_S.rf
  have hP : va_P (dC, dI) vwCl (x_ws h cB cI n σ) s.heap := hP
  have hl := lv_entry ([.ref (h 0), .int a, .int md, .int b]) (n := 7) (Nat.le_of_ble_eq_true rfl)
  rw [lg_entry_eq]
  generalize (lg_sl ([.ref (h 0), .int a, .int md, .int b]) ++ List.replicate (7 - (lg_sl ([.ref (h 0), .int a, .int md, .int b])).length) Slot.unset).toArray = ls at hl ⊢
  have hl : lv_has ls 7 [(0, .ref (h 0)), (1, .int a), (2, .int md), (3, .int b)] := hl
  refine lv_aload_n hx hb dX0_may_0 rfl (lv_at hl 0 rfl) ?_
  refine va_get (D := (dC, dI)) (ci := 0) (v := .int (x_mp σ)) (C := RX0) (T := TX0) (N := 9) hx hb hts inbX0 hown hK hP 0 rfl rfl 3 (by decide) (hts _ bX0_3) (fun _ h9 => h9) rfl dX0_may_1 ?_
  refine lv_if_ne (tgt := 9) hx hb dX0_may_4 (by decide) (fun c_1 => ?_) (fun c_1 => ?_)
  · refine lv_iload_n hx hb dX0_may_9 rfl (lv_at hl 1 rfl) ?_
    refine lv_ldc (v := 65535) hx hb hown (hts _ bX0_11) dX0_may_10 ?_
    refine lv_iand hx hb dX0_may_12 ?_
    refine lv_istore (lv' := [(4, .int (a &&& 65535)), (0, .ref (h 0)), (1, .int a), (2, .int md), (3, .int b)]) hx hb dX0_may_13 hl (by decide) rfl (fun ls hl => ?_)
    refine lv_iload hx hb dX0_may_15 (lv_at hl 0 rfl) ?_
    refine vp_callSi (W.runS (As := [.int (a &&& 65535)]) (rest := []) ⟨hx, hb, hml, hown, hts⟩ (c_x_slotOf l (a &&& 65535) ) (va_cwS 1 hts gX0_X0_slotOf rfl rfl rfl (by decide +kernel) ⟨Nat.le_of_ble_eq_true rfl, Nat.le_of_ble_eq_true rfl⟩) (fs_pre) rfl rfl hl.1 rfl (lv_room (Nat.le_of_ble_eq_true rfl)) dX0_may_17 ⟨Nat.zero_le _, Nat.zero_le _⟩) (fun r er => ?_)
    subst er
    refine lv_istore (lv' := [(5, .int (x_slotOf (a &&& 65535))), (4, .int (a &&& 65535)), (0, .ref (h 0)), (1, .int a), (2, .int md), (3, .int b)]) hx hb dX0_may_20 hl (by decide) rfl (fun ls hl => ?_)
    refine lv_aload_n hx hb dX0_may_22 rfl (lv_at hl 2 rfl) ?_
    refine lv_iload hx hb dX0_may_23 (lv_at hl 0 rfl) ?_
    refine lv_iload hx hb dX0_may_25 (lv_at hl 1 rfl) ?_
    refine vp_callSi (W.runV (C := RX0) (As := [.int (x_slotOf (a &&& 65535)), .int (a &&& 65535)]) (rest := []) ⟨hx, hb, hml, hown, hts⟩ (c_x_counts l dC dI h cB cI n σ (x_slotOf (a &&& 65535)) (a &&& 65535) (x_slot_in _)) (cwV 2 hts gX0_X0_counts rfl rfl rfl (by decide +kernel) ⟨Nat.le_of_ble_eq_true rfl, Nat.le_of_ble_eq_true rfl⟩) (x_preP hK hP) rfl rfl hl.1 rfl (lv_room (Nat.le_of_ble_eq_true rfl)) dX0_may_27 ⟨Nat.zero_le _, Nat.zero_le _⟩) (fun r er => ?_)
    subst er
    refine lv_if_eq (tgt := 54) hx hb dX0_may_30 (by decide) (fun c_2 => ?_) (fun c_2 => ?_)
    · refine lv_aload_n hx hb dX0_may_54 rfl (lv_at hl 2 rfl) ?_
      refine lv_iload hx hb dX0_may_55 (lv_at hl 1 rfl) ?_
      refine lv_iload_n hx hb dX0_may_57 rfl (lv_at hl 5 rfl) ?_
      refine lv_iconst (v := 0) hx hb dX0_may_58 (by decide) ?_
      refine x_calli (f := (x_placeOfEntry n σ (a &&& 65535) b 0)) (va_runV (C := RX0) (As := [.int (a &&& 65535), .int b, .int 0]) (rest := []) ⟨hx, hb, hml, hown, hts⟩ (c_x_placeOfEntry l dC dI h cB cI n _ σ (a &&& 65535) b 0 hn) (cwV 3 hts gX0_X0_placeOfEntry rfl rfl rfl (by decide +kernel) ⟨Nat.le_of_ble_eq_true rfl, Nat.le_of_ble_eq_true rfl⟩) (x_preM hK hP hD) rfl rfl hl.1 rfl (lv_room (Nat.le_of_ble_eq_true rfl)) dX0_may_59 ⟨Nat.zero_le _, Nat.zero_le _⟩) hP hD hS hA (fun r_5 t_3 H locs e_4 hP hD hS => ?_)
      refine lv_istore (lv' := [(6, .int r_5), (5, .int (x_slotOf (a &&& 65535))), (4, .int (a &&& 65535)), (0, .ref (h 0)), (1, .int a), (2, .int md), (3, .int b)]) hx hb dX0_may_62 hl (by decide) rfl (fun ls hl => ?_)
      refine lv_iload hx hb dX0_may_64 (lv_at hl 0 rfl) ?_
      refine lv_if_ge (tgt := 84) hx hb dX0_may_66 (by decide) (fun c_6 => ?_) (fun c_6 => ?_)
      · refine lv_aload_n hx hb dX0_may_84 rfl (lv_at hl 3 rfl) ?_
        refine lv_iload hx hb dX0_may_85 (lv_at hl 0 rfl) ?_
        refine vp_callSi (W.runV (C := RX0) (As := [.int r_5]) (rest := []) ⟨hx, hb, hml, hown, hts⟩ (c_x_entryAt l dC dI h cB cI n t_3 r_5 (x_poe_in hn e_4 c_6)) (cwV 1 hts gX0_X0_entryAt rfl rfl rfl (by decide +kernel) ⟨Nat.le_of_ble_eq_true rfl, Nat.le_of_ble_eq_true rfl⟩) (x_preP hK hP) rfl rfl hl.1 rfl (lv_room (Nat.le_of_ble_eq_true rfl)) dX0_may_87 ⟨Nat.zero_le _, Nat.zero_le _⟩) (fun r er => ?_)
        subst er
        refine lv_iload_n hx hb dX0_may_90 rfl (lv_at hl 5 rfl) ?_
        refine lv_iload_n hx hb dX0_may_91 rfl (lv_at hl 6 rfl) ?_
        refine vp_callSi (W.runS (As := [.int (x_entryAt n t_3 r_5), .int md, .int b]) (rest := []) ⟨hx, hb, hml, hown, hts⟩ (c_x_gives l tw tr (x_entryAt n t_3 r_5) md b ) (va_cwS 3 hts gX0_X0_gives rfl rfl rfl (by decide +kernel) ⟨Nat.le_of_ble_eq_true rfl, Nat.le_of_ble_eq_true rfl⟩) (x_preS hST hS) rfl rfl hl.1 rfl (lv_room (Nat.le_of_ble_eq_true rfl)) dX0_may_92 ⟨Nat.zero_le _, Nat.zero_le _⟩) (fun r er => ?_)
        subst er
        refine lv_if_eq (tgt := 102) hx hb dX0_may_95 (by decide) (fun c_7 => ?_) (fun c_7 => ?_)
        · refine lv_iconst (v := 0) hx hb dX0_may_102 (by decide) ?_
          exact W.iret (v := 0) hx hb hr (fun t ht hW => ⟨⟨0, t_3, rfl, (if_neg c_1).trans ((if_pos c_2).trans ((kb_eq e_4).trans ((if_pos c_6).trans ((if_pos c_7).trans rfl)))), by rw [ht]; exact hP, va_K.moved hW.alike hK, hD⟩, hS.F ht⟩) hS.2.2 dX0_may_103
        · refine lv_iconst (v := 1) hx hb dX0_may_98 (by decide) ?_
          refine lv_goto (tgt := 103) hx hb dX0_may_99 (by decide) ?_
          exact W.iret (v := 1) hx hb hr (fun t ht hW => ⟨⟨1, t_3, rfl, (if_neg c_1).trans ((if_pos c_2).trans ((kb_eq e_4).trans ((if_pos c_6).trans ((if_neg c_7).trans rfl)))), by rw [ht]; exact hP, va_K.moved hW.alike hK, hD⟩, hS.F ht⟩) hS.2.2 dX0_may_103
      · refine lv_iload hx hb dX0_may_69 (lv_at hl 0 rfl) ?_
        refine vp_callSi (W.runS (As := [.int r_5]) (rest := []) ⟨hx, hb, hml, hown, hts⟩ (c_x_isAccess l r_5 ) (va_cwS 1 hts gX0_X0_isAccess rfl rfl rfl (by decide +kernel) ⟨Nat.le_of_ble_eq_true rfl, Nat.le_of_ble_eq_true rfl⟩) (fs_pre) rfl rfl hl.1 rfl (lv_room (Nat.le_of_ble_eq_true rfl)) dX0_may_71 ⟨Nat.zero_le _, Nat.zero_le _⟩) (fun r er => ?_)
        subst er
        refine lv_if_eq (tgt := 81) hx hb dX0_may_74 (by decide) (fun c_8 => ?_) (fun c_8 => ?_)
        · refine lv_iload hx hb dX0_may_81 (lv_at hl 0 rfl) ?_
          exact W.iret (v := r_5) hx hb hr (fun t ht hW => ⟨⟨r_5, t_3, rfl, (if_neg c_1).trans ((if_pos c_2).trans ((kb_eq e_4).trans ((if_neg c_6).trans ((if_pos c_8).trans rfl)))), by rw [ht]; exact hP, va_K.moved hW.alike hK, hD⟩, hS.F ht⟩) hS.2.2 dX0_may_83
        · refine lv_iconst (v := 0) hx hb dX0_may_77 (by decide) ?_
          refine lv_goto (tgt := 83) hx hb dX0_may_78 (by decide) ?_
          exact W.iret (v := 0) hx hb hr (fun t ht hW => ⟨⟨0, t_3, rfl, (if_neg c_1).trans ((if_pos c_2).trans ((kb_eq e_4).trans ((if_neg c_6).trans ((if_neg c_8).trans rfl)))), by rw [ht]; exact hP, va_K.moved hW.alike hK, hD⟩, hS.F ht⟩) hS.2.2 dX0_may_83
    · refine lv_aload_n hx hb dX0_may_33 rfl (lv_at hl 2 rfl) ?_
      refine va_get (D := (dC, dI)) (ci := 0) (v := .ref (h 5)) (C := RX0) (T := TX0) (N := 9) hx hb hts inbX0 hown hK hP 0 rfl rfl 6 (by decide) (hts _ bX0_6) (fun _ h9 => h9) rfl dX0_may_34 ?_
      refine lv_iload hx hb dX0_may_37 (lv_at hl 0 rfl) ?_
      refine va_iald hx hb hK hP 5 1 rfl rfl (x_slot_in _) dX0_may_39 ?_
      refine lv_iload_n hx hb dX0_may_40 rfl (lv_at hl 4 rfl) ?_
      refine lv_iload_n hx hb dX0_may_41 rfl (lv_at hl 5 rfl) ?_
      refine vp_callSi (W.runS (As := [.int (x_ke σ ((x_slotOf (a &&& 65535))).toNatClampNeg), .int md, .int b]) (rest := []) ⟨hx, hb, hml, hown, hts⟩ (c_x_gives l tw tr (x_ke σ ((x_slotOf (a &&& 65535))).toNatClampNeg) md b ) (va_cwS 3 hts gX0_X0_gives rfl rfl rfl (by decide +kernel) ⟨Nat.le_of_ble_eq_true rfl, Nat.le_of_ble_eq_true rfl⟩) (x_preS hST hS) rfl rfl hl.1 rfl (lv_room (Nat.le_of_ble_eq_true rfl)) dX0_may_42 ⟨Nat.zero_le _, Nat.zero_le _⟩) (fun r er => ?_)
      subst er
      refine lv_if_eq (tgt := 52) hx hb dX0_may_45 (by decide) (fun c_9 => ?_) (fun c_9 => ?_)
      · refine lv_iconst (v := 0) hx hb dX0_may_52 (by decide) ?_
        exact W.iret (v := 0) hx hb hr (fun t ht hW => ⟨⟨0, σ, rfl, (if_neg c_1).trans ((if_neg c_2).trans ((if_pos c_9).trans rfl)), by rw [ht]; exact hP, va_K.moved hW.alike hK, hD⟩, hS.F ht⟩) hS.2.2 dX0_may_53
      · refine lv_iconst (v := 1) hx hb dX0_may_48 (by decide) ?_
        refine lv_goto (tgt := 53) hx hb dX0_may_49 (by decide) ?_
        exact W.iret (v := 1) hx hb hr (fun t ht hW => ⟨⟨1, σ, rfl, (if_neg c_1).trans ((if_neg c_2).trans ((if_neg c_9).trans rfl)), by rw [ht]; exact hP, va_K.moved hW.alike hK, hD⟩, hS.F ht⟩) hS.2.2 dX0_may_53
  · refine lv_iconst (v := 1) hx hb dX0_may_7 (by decide) ?_
    exact W.iret (v := 1) hx hb hr (fun t ht hW => ⟨⟨1, σ, rfl, (if_pos c_1).trans rfl, by rw [ht]; exact hP, va_K.moved hW.alike hK, hD⟩, hS.F ht⟩) hS.2.2 dX0_may_8
