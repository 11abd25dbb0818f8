set_option maxHeartbeats 4000000 in
set_option maxRecDepth 100000 in
theorem c_m_read (l : Launch) (dC : Nat → ClassId) (dI : Nat → Nat → Nat) (h : Nat → Nat) (cI : ClassId) (n : Nat) (sz : Nat) (σ : MS) (a : Int32) (ct : Int32) (md : Int32) (hn : n ≤ 2048) (hI : m_Inv n σ) : Met l yX1_read wsX1_read ({ frames := 6, cells := 0, slots := 0, locals := 142 }) (va_Pc [.ref (h 0), .int a, .int ct, .int md] (m_BM dC dI h cI n sz σ)) (q_m_read dC dI h cI n σ a ct md (va_A (m_ws h cI n σ) sz)) 0 0 (va_A (m_ws h cI n σ) sz) := by
  refine Met.ofW (cc := cX1_read) (maxL := 8) (ret := (some .long)) (by decide) rfl ?_
  intro p e s m args below meth c s₁ B hml hv
  obtain ⟨rfl, hsz, hP, hK, hD0⟩ := hv
  have hx := B.exec
  have hb := B.bytes
  have hr := B.returns
  have hts : ∀ w ∈ bX1, w.before _ s = true := fun w h => atoms_spec (ws := wsX1_read) B.pre w (List.mem_cons_of_mem _ h)
  have hown : s.vm.findClass RX1 = some m.cls := findClass_of_methodNamed B.named
  have hlocks := B.notSynchronized
  subst hsz
  have hD := hD0.self (sz := s.heap.size)
  generalize hAe : va_A (m_ws h cI n σ) s.heap.size = A at hD ⊢
  have hA : ∀ q : Nat, s.heap.size ≤ q → A q := fun q h => by rw [← hAe]; exact Or.inr h
  have hS : va_S A s.heap s.heap [] := va_S.rf
  have hP : va_P (dC, dI) vwCl (m_ws h cI n σ) s.heap := hP
  have hl := lv_entry ([.ref (h 0), .int a, .int ct, .int md]) (n := 8) (Nat.le_of_ble_eq_true rfl)
  rw [lg_entry_eq]
  generalize (lg_sl ([.ref (h 0), .int a, .int ct, .int md]) ++ List.replicate (8 - (lg_sl ([.ref (h 0), .int a, .int ct, .int md])).length) Slot.unset).toArray = ls at hl ⊢
  have hl : lv_has ls 8 [(0, .ref (h 0)), (1, .int a), (2, .int ct), (3, .int md)] := hl
  have key_l1 : ∀ (f j : Nat) (v : Int64) (i : Int32) (τ : MS) (H : Heap) (locs : List Loc) (ls : Array Slot), (i = nI j - 1) → (j ≤ 4) → (j + 1 ≤ f) → (∃ K : Nat, K ≤ 4 ∧ j ≤ K ∧ ct = nI K) → (∀ q : Nat, q < 4 → nI q < ct → vp_in (m_li τ q) 2048) → m_read n σ a ct md = m_read_l1 n a ct md f v i τ → va_P (dC, dI) vwCl (m_ws h cI n τ) H → va_D A (m_ws h cI n τ) → va_S A s.heap H locs → lv_has ls 8 [(7, .int i), (5, .long v), (0, .ref (h 0)), (1, .int a), (2, .int ct), (3, .int md)] → W p l e (headSpec wsX1_read ({ frames := 6, cells := 0, slots := 0, locals := 142 })).room s m ([.ref (h 0), .int a, .int ct, .int md] : List Value).toArray below meth c H locs 0 0 (MQ below (q_m_read dC dI h cI n σ a ct md A) ([.ref (h 0), .int a, .int ct, .int md] : List Value).toArray s 0 0 A) (F0 m 41 ls []) := by
    intro f
    induction f with
    | zero => intro j v i τ H locs ls ei hj hf hc hq; exact absurd hf (by omega)
    | succ f ih =>
      intro j v i τ H locs ls ei hj hf hc hq hm hP hD hS hl
      refine lv_iload hx hb dX1_read_41 (lv_at hl 0 rfl) ?_
      refine lv_if_lt (tgt := 74) hx hb dX1_read_43 (by decide) (fun c_101 => ?_) (fun c_101 => ?_)
      · refine lv_lload hx hb dX1_read_74 (lv_at hl 1 rfl) ?_
        exact W.lret (v := v) hx hb hr (fun t ht hW => ⟨⟨v, τ, rfl, hm.trans ((if_pos c_101).trans rfl), by rw [ht]; exact hP, va_K.moved hW.alike hK, hD⟩, hS.F ht⟩) hS.2.2 dX1_read_76
      · have hj1 : 0 < j := m_jpos ei c_101
        refine lv_lload hx hb dX1_read_46 (lv_at hl 1 rfl) ?_
        refine lv_ldc2 (v := 256) hx hb hown (hts _ bX1_20) dX1_read_48 ?_
        refine lv_lmul hx hb dX1_read_51 ?_
        refine lv_aload_n hx hb dX1_read_52 rfl (lv_at hl 2 rfl) ?_
        refine va_get (D := (dC, dI)) (ci := 1) (v := .ref (h 1)) (C := RX1) (T := TX1) (N := 14) hx hb hts inbX1 hown hK hP 0 rfl rfl 0 (by decide) (hts _ bX1_0) (fun _ h9 => h9) rfl dX1_read_53 ?_
        refine lv_aload_n hx hb dX1_read_56 rfl (lv_at hl 2 rfl) ?_
        refine va_get (D := (dC, dI)) (ci := 1) (v := .ref (h 9)) (C := RX1) (T := TX1) (N := 14) hx hb hts inbX1 hown hK hP 0 rfl rfl 10 (by decide) (hts _ bX1_10) (fun _ h9 => h9) rfl dX1_read_57 ?_
        refine lv_iload hx hb dX1_read_60 (lv_at hl 0 rfl) ?_
        refine va_iald hx hb hK hP 9 0 rfl rfl (m_jix ei hj1 hj) dX1_read_62 ?_
        refine va_iald hx hb hK hP 1 0 rfl rfl (m_jat ei hj1 hj hc hq) dX1_read_63 ?_
        refine lv_i2l (v := (((m_mem τ ((m_li τ (i).toNatClampNeg)).toNatClampNeg)).toInt64)) hx hb dX1_read_64 rfl ?_
        refine lv_ladd hx hb dX1_read_65 ?_
        refine lv_lstore (lv' := [(5, .long ((v * 256) + (((m_mem τ ((m_li τ (i).toNatClampNeg)).toNatClampNeg)).toInt64))), (7, .int i), (0, .ref (h 0)), (1, .int a), (2, .int ct), (3, .int md)]) hx hb dX1_read_66 hl (by decide) rfl (fun ls hl => ?_)
        refine lv_iinc (v := (i + (-1))) (lv' := [(7, .int (i + (-1))), (5, .long ((v * 256) + (((m_mem τ ((m_li τ (i).toNatClampNeg)).toNatClampNeg)).toInt64))), (0, .ref (h 0)), (1, .int a), (2, .int ct), (3, .int md)]) hx hb dX1_read_68 hl (k := 1) rfl rfl (by decide) rfl (fun ls hl => ?_)
        refine lv_goto (tgt := 41) hx hb dX1_read_71 (by decide) ?_
        exact ih (j - 1) ((v * 256) + (((m_mem τ ((m_li τ (i).toNatClampNeg)).toNatClampNeg)).toInt64)) (i + (-1)) τ _ _ _ (m_dec ei hj1) (by omega) (by omega) (m_decK hc) hq (hm.trans ((if_neg c_101).trans rfl)) hP hD hS (lv_sub hl [0, 1, 2, 3, 4, 5] rfl)
  refine lv_iload_n hx hb dX1_read_0 rfl (lv_at hl 2 rfl) ?_
  refine vp_callSi (W.runS (As := [.int ct]) (rest := []) ⟨hx, hb, hml, hown, hts⟩ (c_m_isSize l ct ) (va_cwS 1 hts gX1_X1_isSize rfl rfl rfl (by decide +kernel) ⟨Nat.le_of_ble_eq_true rfl, Nat.le_of_ble_eq_true rfl⟩) (fs_pre) rfl rfl hl.1 rfl (lv_room (Nat.le_of_ble_eq_true rfl)) dX1_read_1 ⟨Nat.zero_le _, Nat.zero_le _⟩) (fun r er => ?_)
  subst er
  refine lv_if_ne (tgt := 11) hx hb dX1_read_4 (by decide) (fun c_1 => ?_) (fun c_1 => ?_)
  · refine lv_aload_n hx hb dX1_read_11 rfl (lv_at hl 0 rfl) ?_
    refine lv_iload_n hx hb dX1_read_12 rfl (lv_at hl 1 rfl) ?_
    refine lv_ldc (v := 65535) hx hb hown (hts _ bX1_16) dX1_read_13 ?_
    refine lv_iand hx hb dX1_read_15 ?_
    refine lv_iload_n hx hb dX1_read_16 rfl (lv_at hl 2 rfl) ?_
    refine lv_iload_n hx hb dX1_read_17 rfl (lv_at hl 3 rfl) ?_
    refine lv_iconst (v := 0) hx hb dX1_read_18 (by decide) ?_
    refine m_calli (f := (m_reach n σ (a &&& 65535) ct md 0)) (va_runV (C := RX1) (As := [.int (a &&& 65535), .int ct, .int md, .int 0]) (rest := []) ⟨hx, hb, hml, hown, hts⟩ (c_m_reach l dC dI h cI n _ σ (a &&& 65535) ct md 0 hn hI (m_cnt4 c_1)) (cwV 4 hts gX1_X1_reach rfl rfl rfl (by decide +kernel) ⟨Nat.le_of_ble_eq_true rfl, Nat.le_of_ble_eq_true rfl⟩) (m_preM hK hP hD) rfl rfl hl.1 rfl (lv_room (Nat.le_of_ble_eq_true rfl)) dX1_read_19 ⟨Nat.zero_le _, Nat.zero_le _⟩) hP hD hS hA (fun r_4 t_2 H locs e_3 hP hD hS => ?_)
    refine lv_istore (lv' := [(4, .int r_4), (0, .ref (h 0)), (1, .int a), (2, .int ct), (3, .int md)]) hx hb dX1_read_22 hl (by decide) rfl (fun ls hl => ?_)
    refine lv_iload hx hb dX1_read_24 (lv_at hl 0 rfl) ?_
    refine lv_if_ge (tgt := 33) hx hb dX1_read_26 (by decide) (fun c_5 => ?_) (fun c_5 => ?_)
    · refine lv_lconst (v := 0) hx hb dX1_read_33 (by decide) ?_
      refine lv_lstore (lv' := [(5, .long 0), (4, .int r_4), (0, .ref (h 0)), (1, .int a), (2, .int ct), (3, .int md)]) hx hb dX1_read_34 hl (by decide) rfl (fun ls hl => ?_)
      refine lv_iload_n hx hb dX1_read_36 rfl (lv_at hl 4 rfl) ?_
      refine lv_iconst (v := 1) hx hb dX1_read_37 (by decide) ?_
      refine lv_isub hx hb dX1_read_38 ?_
      refine lv_istore (lv' := [(7, .int (ct - 1)), (5, .long 0), (4, .int r_4), (0, .ref (h 0)), (1, .int a), (2, .int ct), (3, .int md)]) hx hb dX1_read_39 hl (by decide) rfl (fun ls hl => ?_)
      exact key_l1 5 ct.toNatClampNeg 0 (ct - 1) t_2 _ _ _ (m_K_e c_1) (m_K_4 c_1) (by have := m_K_4 c_1; omega) (m_K_c c_1) (m_re_in hn c_1 e_3 c_5) ((if_neg c_1).trans ((kb_eq e_3).trans ((if_pos c_5).trans rfl))) hP hD hS (lv_sub hl [0, 1, 3, 4, 5, 6] rfl)
    · refine lv_iload hx hb dX1_read_29 (lv_at hl 0 rfl) ?_
      refine lv_i2l (v := ((r_4).toInt64)) hx hb dX1_read_31 rfl ?_
      exact W.lret (v := ((r_4).toInt64)) hx hb hr (fun t ht hW => ⟨⟨((r_4).toInt64), t_2, rfl, (if_neg c_1).trans ((kb_eq e_3).trans ((if_neg c_5).trans rfl)), by rw [ht]; exact hP, va_K.moved hW.alike hK, hD⟩, hS.F ht⟩) hS.2.2 dX1_read_32
  · refine lv_ldc2 (v := (-101)) hx hb hown (hts _ bX1_18) dX1_read_7 ?_
    exact W.lret (v := (-101)) hx hb hr (fun t ht hW => ⟨⟨(-101), σ, rfl, (if_pos c_1).trans rfl, by rw [ht]; exact hP, va_K.moved hW.alike hK, hD⟩, hS.F ht⟩) hS.2.2 dX1_read_10
set_option maxHeartbeats 4000000 in
set_option maxRecDepth 100000 in
theorem c_m_write (l : Launch) (dC : Nat → ClassId) (dI : Nat → Nat → Nat) (h : Nat → Nat) (cI : ClassId) (n : Nat) (sz : Nat) (σ : MS) (a : Int32) (ct : Int32) (v : Int32) (md : Int32) (hn : n ≤ 2048) (hI : m_Inv n σ) : Met l yX1_write wsX1_write ({ frames := 6, cells := 0, slots := 0, locals := 142 }) (va_Pc [.ref (h 0), .int a, .int ct, .int v, .int md] (m_BM dC dI h cI n sz σ)) (q_m_write dC dI h cI n σ a ct v md (va_A (m_ws h cI n σ) sz)) 0 0 (va_A (m_ws h cI n σ) sz) := by
  refine Met.ofW (cc := cX1_write) (maxL := 7) (ret := (some .int)) (by decide) rfl ?_
  intro p e s m args below meth c s₁ B hml hv
  obtain ⟨rfl, hsz, hP, hK, hD0⟩ := hv
  have hx := B.exec
  have hb := B.bytes
  have hr := B.returns
  have hts : ∀ w ∈ bX1, w.before _ s = true := fun w h => atoms_spec (ws := wsX1_write) B.pre w (List.mem_cons_of_mem _ h)
  have hown : s.vm.findClass RX1 = some m.cls := findClass_of_methodNamed B.named
  have hlocks := B.notSynchronized
  subst hsz
  have hD := hD0.self (sz := s.heap.size)
  generalize hAe : va_A (m_ws h cI n σ) s.heap.size = A at hD ⊢
  have hA : ∀ q : Nat, s.heap.size ≤ q → A q := fun q h => by rw [← hAe]; exact Or.inr h
  have hS : va_S A s.heap s.heap [] := va_S.rf
  have hP : va_P (dC, dI) vwCl (m_ws h cI n σ) s.heap := hP
  have hl := lv_entry ([.ref (h 0), .int a, .int ct, .int v, .int md]) (n := 7) (Nat.le_of_ble_eq_true rfl)
  rw [lg_entry_eq]
  generalize (lg_sl ([.ref (h 0), .int a, .int ct, .int v, .int md]) ++ List.replicate (7 - (lg_sl ([.ref (h 0), .int a, .int ct, .int v, .int md])).length) Slot.unset).toArray = ls at hl ⊢
  have hl : lv_has ls 7 [(0, .ref (h 0)), (1, .int a), (2, .int ct), (3, .int v), (4, .int md)] := hl
  have key_l1 : ∀ (f j : Nat) (i : Int32) (τ : MS) (H : Heap) (locs : List Loc) (ls : Array Slot), (i = nI j) → (j ≤ 4) → (5 ≤ j + f) → (∃ K : Nat, K ≤ 4 ∧ ct = nI K) → (∀ q : Nat, q < 4 → nI q < ct → vp_in (m_li τ q) 2048) → m_write n σ a ct v md = m_write_l1 n a ct v md f i τ → va_P (dC, dI) vwCl (m_ws h cI n τ) H → va_D A (m_ws h cI n τ) → va_S A s.heap H locs → lv_has ls 7 [(6, .int i), (0, .ref (h 0)), (1, .int a), (2, .int ct), (3, .int v), (4, .int md)] → W p l e (headSpec wsX1_write ({ frames := 6, cells := 0, slots := 0, locals := 142 })).room s m ([.ref (h 0), .int a, .int ct, .int v, .int md] : List Value).toArray below meth c H locs 0 0 (MQ below (q_m_write dC dI h cI n σ a ct v md A) ([.ref (h 0), .int a, .int ct, .int v, .int md] : List Value).toArray s 0 0 A) (F0 m 35 ls []) := by
    intro f
    induction f with
    | zero => intro j i τ H locs ls ej hj hf hc hq; exact absurd hf (by omega)
    | succ f ih =>
      intro j i τ H locs ls ej hj hf hc hq hm hP hD hS hl
      refine lv_iload hx hb dX1_write_35 (lv_at hl 0 rfl) ?_
      refine lv_iload_n hx hb dX1_write_37 rfl (lv_at hl 3 rfl) ?_
      refine lv_icmp_ge (tgt := 70) hx hb dX1_write_38 (by decide) (fun c_101 => ?_) (fun c_101 => ?_)
      · refine lv_iconst (v := 0) hx hb dX1_write_70 (by decide) ?_
        exact W.iret (v := 0) hx hb hr (fun t ht hW => ⟨⟨0, τ, rfl, hm.trans ((if_pos c_101).trans rfl), by rw [ht]; exact hP, va_K.moved hW.alike hK, hD⟩, hS.F ht⟩) hS.2.2 dX1_write_71
      · have hlt : j < 4 := x_ltK hc hj ej (by omega) c_101
        refine lv_aload_n hx hb dX1_write_41 rfl (lv_at hl 1 rfl) ?_
        refine va_get (D := (dC, dI)) (ci := 1) (v := .ref (h 1)) (C := RX1) (T := TX1) (N := 14) hx hb hts inbX1 hown hK hP 0 rfl rfl 0 (by decide) (hts _ bX1_0) (fun _ h9 => h9) rfl dX1_write_42 ?_
        refine lv_aload_n hx hb dX1_write_45 rfl (lv_at hl 1 rfl) ?_
        refine va_get (D := (dC, dI)) (ci := 1) (v := .ref (h 9)) (C := RX1) (T := TX1) (N := 14) hx hb hts inbX1 hown hK hP 0 rfl rfl 10 (by decide) (hts _ bX1_10) (fun _ h9 => h9) rfl dX1_write_46 ?_
        refine lv_iload hx hb dX1_write_49 (lv_at hl 0 rfl) ?_
        refine va_iald hx hb hK hP 9 0 rfl rfl (by rw [ej]; exact vp_in_nI hlt (by omega)) dX1_write_51 ?_
        refine lv_iload_n hx hb dX1_write_52 rfl (lv_at hl 4 rfl) ?_
        refine lv_bipush (v := 8) hx hb dX1_write_53 (by decide) ?_
        refine lv_iload hx hb dX1_write_55 (lv_at hl 0 rfl) ?_
        refine lv_imul hx hb dX1_write_57 ?_
        refine lv_ishr hx hb dX1_write_58 ?_
        refine lv_sipush (v := 255) hx hb dX1_write_59 (by decide) ?_
        refine lv_iand hx hb dX1_write_62 ?_
        refine va_iast hx hb hK hP hD hS 1 0 rfl rfl (x_plat ej hlt hq c_101) dX1_write_63 (fun H locs hP hD hS => ?_)
        have hP := m_pMem hP
        have hD := m_dMem hD
        refine lv_iinc (v := (i + 1)) (lv' := [(6, .int (i + 1)), (0, .ref (h 0)), (1, .int a), (2, .int ct), (3, .int v), (4, .int md)]) hx hb dX1_write_64 hl (k := 0) rfl rfl (by decide) rfl (fun ls hl => ?_)
        refine lv_goto (tgt := 35) hx hb dX1_write_67 (by decide) ?_
        exact ih (j + 1) (i + 1) (m_sMem τ (upd (m_mem τ) (((m_li τ (i).toNatClampNeg)).toNatClampNeg) ((v >>> (((8 : Int32) * i) &&& 31)) &&& 255))) _ _ _ (by rw [ej]; exact nI_1 j) (by omega) (by omega) hc hq (hm.trans ((if_neg c_101).trans rfl)) hP hD hS (lv_sub hl [0, 1, 2, 3, 4, 5] rfl)
  refine lv_iload_n hx hb dX1_write_0 rfl (lv_at hl 2 rfl) ?_
  refine vp_callSi (W.runS (As := [.int ct]) (rest := []) ⟨hx, hb, hml, hown, hts⟩ (c_m_isSize l ct ) (va_cwS 1 hts gX1_X1_isSize rfl rfl rfl (by decide +kernel) ⟨Nat.le_of_ble_eq_true rfl, Nat.le_of_ble_eq_true rfl⟩) (fs_pre) rfl rfl hl.1 rfl (lv_room (Nat.le_of_ble_eq_true rfl)) dX1_write_1 ⟨Nat.zero_le _, Nat.zero_le _⟩) (fun r er => ?_)
  subst er
  refine lv_if_ne (tgt := 10) hx hb dX1_write_4 (by decide) (fun c_1 => ?_) (fun c_1 => ?_)
  · refine lv_aload_n hx hb dX1_write_10 rfl (lv_at hl 0 rfl) ?_
    refine lv_iload_n hx hb dX1_write_11 rfl (lv_at hl 1 rfl) ?_
    refine lv_ldc (v := 65535) hx hb hown (hts _ bX1_16) dX1_write_12 ?_
    refine lv_iand hx hb dX1_write_14 ?_
    refine lv_iload_n hx hb dX1_write_15 rfl (lv_at hl 2 rfl) ?_
    refine lv_iload hx hb dX1_write_16 (lv_at hl 4 rfl) ?_
    refine lv_iconst (v := 1) hx hb dX1_write_18 (by decide) ?_
    refine m_calli (f := (m_reach n σ (a &&& 65535) ct md 1)) (va_runV (C := RX1) (As := [.int (a &&& 65535), .int ct, .int md, .int 1]) (rest := []) ⟨hx, hb, hml, hown, hts⟩ (c_m_reach l dC dI h cI n _ σ (a &&& 65535) ct md 1 hn hI (m_cnt4 c_1)) (cwV 4 hts gX1_X1_reach rfl rfl rfl (by decide +kernel) ⟨Nat.le_of_ble_eq_true rfl, Nat.le_of_ble_eq_true rfl⟩) (m_preM hK hP hD) rfl rfl hl.1 rfl (lv_room (Nat.le_of_ble_eq_true rfl)) dX1_write_19 ⟨Nat.zero_le _, Nat.zero_le _⟩) hP hD hS hA (fun r_4 t_2 H locs e_3 hP hD hS => ?_)
    refine lv_istore (lv' := [(5, .int r_4), (0, .ref (h 0)), (1, .int a), (2, .int ct), (3, .int v), (4, .int md)]) hx hb dX1_write_22 hl (by decide) rfl (fun ls hl => ?_)
    refine lv_iload hx hb dX1_write_24 (lv_at hl 0 rfl) ?_
    refine lv_if_ge (tgt := 32) hx hb dX1_write_26 (by decide) (fun c_5 => ?_) (fun c_5 => ?_)
    · refine lv_iconst (v := 0) hx hb dX1_write_32 (by decide) ?_
      refine lv_istore (lv' := [(6, .int 0), (5, .int r_4), (0, .ref (h 0)), (1, .int a), (2, .int ct), (3, .int v), (4, .int md)]) hx hb dX1_write_33 hl (by decide) rfl (fun ls hl => ?_)
      exact key_l1 5 0 0 t_2 _ _ _ nI_0.symm (by omega) (by omega) (m_cnt4 c_1) (m_re_in hn c_1 e_3 c_5) ((if_neg c_1).trans ((kb_eq e_3).trans ((if_pos c_5).trans rfl))) hP hD hS (lv_sub hl [0, 2, 3, 4, 5, 6] rfl)
    · refine lv_iload hx hb dX1_write_29 (lv_at hl 0 rfl) ?_
      exact W.iret (v := r_4) hx hb hr (fun t ht hW => ⟨⟨r_4, t_2, rfl, (if_neg c_1).trans ((kb_eq e_3).trans ((if_neg c_5).trans rfl)), by rw [ht]; exact hP, va_K.moved hW.alike hK, hD⟩, hS.F ht⟩) hS.2.2 dX1_write_31
  · refine lv_bipush (v := (-101)) hx hb dX1_write_7 (by decide) ?_
    exact W.iret (v := (-101)) hx hb hr (fun t ht hW => ⟨⟨(-101), σ, rfl, (if_pos c_1).trans rfl, by rw [ht]; exact hP, va_K.moved hW.alike hK, hD⟩, hS.F ht⟩) hS.2.2 dX1_write_9
set_option maxHeartbeats 4000000 in
set_option maxRecDepth 100000 in
theorem c_m_where (l : Launch) (dC : Nat → ClassId) (dI : Nat → Nat → Nat) (h : Nat → Nat) (cI : ClassId) (n : Nat) (sz : Nat) (σ : MS) (a : Int32) (md : Int32) (b : Int32) (hn : n ≤ 2048) (hI : m_Inv n σ) : Met l yX1_where wsX1_where ({ frames := 5, cells := 0, slots := 0, locals := 115 }) (va_Pc [.ref (h 0), .int a, .int md, .int b] (m_BM dC dI h cI n sz σ)) (q_m_where dC dI h cI n σ a md b (va_A (m_ws h cI n σ) sz)) 0 0 (va_A (m_ws h cI n σ) sz) := by
  refine Met.ofW (cc := cX1_where) (maxL := 5) (ret := (some .int)) (by decide) rfl ?_
  intro p e s m args below meth c s₁ B hml hv
  obtain ⟨rfl, hsz, hP, hK, hD0⟩ := hv
  have hx := B.exec
  have hb := B.bytes
  have hr := B.returns
  have hts : ∀ w ∈ bX1, w.before _ s = true := fun w h => atoms_spec (ws := wsX1_where) B.pre w (List.mem_cons_of_mem _ h)
  have hown : s.vm.findClass RX1 = some m.cls := findClass_of_methodNamed B.named
  have hlocks := B.notSynchronized
  subst hsz
  have hD := hD0.self (sz := s.heap.size)
  generalize hAe : va_A (m_ws h cI n σ) s.heap.size = A at hD ⊢
  have hA : ∀ q : Nat, s.heap.size ≤ q → A q := fun q h => by rw [← hAe]; exact Or.inr h
  have hS : va_S A s.heap s.heap [] := va_S.rf
  have hP : va_P (dC, dI) vwCl (m_ws h cI n σ) s.heap := hP
  have hl := lv_entry ([.ref (h 0), .int a, .int md, .int b]) (n := 5) (Nat.le_of_ble_eq_true rfl)
  rw [lg_entry_eq]
  generalize (lg_sl ([.ref (h 0), .int a, .int md, .int b]) ++ List.replicate (5 - (lg_sl ([.ref (h 0), .int a, .int md, .int b])).length) Slot.unset).toArray = ls at hl ⊢
  have hl : lv_has ls 5 [(0, .ref (h 0)), (1, .int a), (2, .int md), (3, .int b)] := hl
  refine lv_aload_n hx hb dX1_where_0 rfl (lv_at hl 0 rfl) ?_
  refine lv_iload_n hx hb dX1_where_1 rfl (lv_at hl 1 rfl) ?_
  refine lv_ldc (v := 65535) hx hb hown (hts _ bX1_16) dX1_where_2 ?_
  refine lv_iand hx hb dX1_where_4 ?_
  refine lv_iload_n hx hb dX1_where_5 rfl (lv_at hl 2 rfl) ?_
  refine lv_iconst (v := 3) hx hb dX1_where_6 (by decide) ?_
  refine lv_iand hx hb dX1_where_7 ?_
  refine lv_iload_n hx hb dX1_where_8 rfl (lv_at hl 3 rfl) ?_
  refine lv_iconst (v := 0) hx hb dX1_where_9 (by decide) ?_
  refine m_calli (f := (m_translate n σ (a &&& 65535) (md &&& 3) b 0)) (va_runV (C := RX1) (As := [.int (a &&& 65535), .int (md &&& 3), .int b, .int 0]) (rest := []) ⟨hx, hb, hml, hown, hts⟩ (c_m_translate l dC dI h cI n _ σ (a &&& 65535) (md &&& 3) b 0 hn hI (x_mask16 _)) (cwV 4 hts gX1_X1_translate rfl rfl rfl (by decide +kernel) ⟨Nat.le_of_ble_eq_true rfl, Nat.le_of_ble_eq_true rfl⟩) (m_preM hK hP hD) rfl rfl hl.1 rfl (lv_room (Nat.le_of_ble_eq_true rfl)) dX1_where_10 ⟨Nat.zero_le _, Nat.zero_le _⟩) hP hD hS hA (fun r_3 t_1 H locs e_2 hP hD hS => ?_)
  refine lv_istore (lv' := [(4, .int r_3), (0, .ref (h 0)), (1, .int a), (2, .int md), (3, .int b)]) hx hb dX1_where_13 hl (by decide) rfl (fun ls hl => ?_)
  refine lv_iload hx hb dX1_where_15 (lv_at hl 0 rfl) ?_
  refine lv_if_lt (tgt := 34) hx hb dX1_where_17 (by decide) (fun c_4 => ?_) (fun c_4 => ?_)
  · refine lv_iload hx hb dX1_where_34 (lv_at hl 0 rfl) ?_
    exact W.iret (v := r_3) hx hb hr (fun t ht hW => ⟨⟨r_3, t_1, rfl, (kb_eq e_2).trans ((if_pos c_4).trans rfl), by rw [ht]; exact hP, va_K.moved hW.alike hK, hD⟩, hS.F ht⟩) hS.2.2 dX1_where_36
  · refine lv_aload_n hx hb dX1_where_20 rfl (lv_at hl 1 rfl) ?_
    refine lv_iload hx hb dX1_where_21 (lv_at hl 0 rfl) ?_
    refine vp_callSi (W.runV (C := RX1) (As := [.int r_3]) (rest := []) ⟨hx, hb, hml, hown, hts⟩ (c_m_isThere l dC dI h cI n t_1 r_3 ) (cwV 1 hts gX1_X1_isThere rfl rfl rfl (by decide +kernel) ⟨Nat.le_of_ble_eq_true rfl, Nat.le_of_ble_eq_true rfl⟩) (m_preP hK hP) rfl rfl hl.1 rfl (lv_room (Nat.le_of_ble_eq_true rfl)) dX1_where_23 ⟨Nat.zero_le _, Nat.zero_le _⟩) (fun r er => ?_)
    subst er
    refine lv_if_ne (tgt := 34) hx hb dX1_where_26 (by decide) (fun c_5 => ?_) (fun c_5 => ?_)
    · refine lv_iload hx hb dX1_where_34 (lv_at hl 0 rfl) ?_
      exact W.iret (v := r_3) hx hb hr (fun t ht hW => ⟨⟨r_3, t_1, rfl, (kb_eq e_2).trans ((if_neg c_4).trans ((if_neg c_5).trans rfl)), by rw [ht]; exact hP, va_K.moved hW.alike hK, hD⟩, hS.F ht⟩) hS.2.2 dX1_where_36
    · refine lv_bipush (v := (-100)) hx hb dX1_where_29 (by decide) ?_
      refine lv_goto (tgt := 36) hx hb dX1_where_31 (by decide) ?_
      exact W.iret (v := (-100)) hx hb hr (fun t ht hW => ⟨⟨(-100), t_1, rfl, (kb_eq e_2).trans ((if_neg c_4).trans ((if_pos c_5).trans rfl)), by rw [ht]; exact hP, va_K.moved hW.alike hK, hD⟩, hS.F ht⟩) hS.2.2 dX1_where_36
set_option maxHeartbeats 4000000 in
set_option maxRecDepth 100000 in
theorem c_m_may (l : Launch) (dC : Nat → ClassId) (dI : Nat → Nat → Nat) (h : Nat → Nat) (cI : ClassId) (n : Nat) (sz : Nat) (σ : MS) (a : Int32) (md : Int32) (b : Int32) (hn : n ≤ 2048) : Met l yX1_may wsX1_may ({ frames := 4, cells := 0, slots := 0, locals := 89 }) (va_Pc [.ref (h 0), .int a, .int md, .int b] (m_BM dC dI h cI n sz σ)) (q_m_may dC dI h cI n σ a md b (va_A (m_ws h cI n σ) sz)) 0 0 (va_A (m_ws h cI n σ) sz) := by
  refine Met.ofW (cc := cX1_may) (maxL := 5) (ret := (some .int)) (by decide) rfl ?_
  intro p e s m args below meth c s₁ B hml hv
  obtain ⟨rfl, hsz, hP, hK, hD0⟩ := hv
  have hx := B.exec
  have hb := B.bytes
  have hr := B.returns
  have hts : ∀ w ∈ bX1, w.before _ s = true := fun w h => atoms_spec (ws := wsX1_may) B.pre w (List.mem_cons_of_mem _ h)
  have hown : s.vm.findClass RX1 = some m.cls := findClass_of_methodNamed B.named
  have hlocks := B.notSynchronized
  subst hsz
  have hD := hD0.self (sz := s.heap.size)
  generalize hAe : va_A (m_ws h cI n σ) s.heap.size = A at hD ⊢
  have hA : ∀ q : Nat, s.heap.size ≤ q → A q := fun q h => by rw [← hAe]; exact Or.inr h
  have hS : va_S A s.heap s.heap [] := va_S.rf
  have hP : va_P (dC, dI) vwCl (m_ws h cI n σ) s.heap := hP
  have hl := lv_entry ([.ref (h 0), .int a, .int md, .int b]) (n := 5) (Nat.le_of_ble_eq_true rfl)
  rw [lg_entry_eq]
  generalize (lg_sl ([.ref (h 0), .int a, .int md, .int b]) ++ List.replicate (5 - (lg_sl ([.ref (h 0), .int a, .int md, .int b])).length) Slot.unset).toArray = ls at hl ⊢
  have hl : lv_has ls 5 [(0, .ref (h 0)), (1, .int a), (2, .int md), (3, .int b)] := hl
  refine lv_aload_n hx hb dX1_may_0 rfl (lv_at hl 0 rfl) ?_
  refine va_get (D := (dC, dI)) (ci := 1) (v := .int (m_on σ)) (C := RX1) (T := TX1) (N := 14) hx hb hts inbX1 hown hK hP 0 rfl rfl 4 (by decide) (hts _ bX1_4) (fun _ h9 => h9) rfl dX1_may_1 ?_
  refine lv_if_ne (tgt := 9) hx hb dX1_may_4 (by decide) (fun c_1 => ?_) (fun c_1 => ?_)
  · refine lv_aload_n hx hb dX1_may_9 rfl (lv_at hl 0 rfl) ?_
    refine lv_iload_n hx hb dX1_may_10 rfl (lv_at hl 1 rfl) ?_
    refine lv_ldc (v := 65535) hx hb hown (hts _ bX1_16) dX1_may_11 ?_
    refine lv_iand hx hb dX1_may_13 ?_
    refine lv_iconst (v := 0) hx hb dX1_may_14 (by decide) ?_
    refine m_calli (f := (m_look n σ (a &&& 65535) 0)) (va_runV (C := RX1) (As := [.int (a &&& 65535), .int 0]) (rest := []) ⟨hx, hb, hml, hown, hts⟩ (c_m_look l dC dI h cI n _ σ (a &&& 65535) 0 hn) (cwV 2 hts gX1_X1_look rfl rfl rfl (by decide +kernel) ⟨Nat.le_of_ble_eq_true rfl, Nat.le_of_ble_eq_true rfl⟩) (m_preM hK hP hD) rfl rfl hl.1 rfl (lv_room (Nat.le_of_ble_eq_true rfl)) dX1_may_15 ⟨Nat.zero_le _, Nat.zero_le _⟩) hP hD hS hA (fun r_4 t_2 H locs e_3 hP hD hS => ?_)
    refine lv_istore (lv' := [(4, .int r_4), (0, .ref (h 0)), (1, .int a), (2, .int md), (3, .int b)]) hx hb dX1_may_18 hl (by decide) rfl (fun ls hl => ?_)
    refine lv_iload hx hb dX1_may_20 (lv_at hl 0 rfl) ?_
    refine lv_bipush (v := (-100)) hx hb dX1_may_22 (by decide) ?_
    refine lv_icmp_ne (tgt := 30) hx hb dX1_may_24 (by decide) (fun c_5 => ?_) (fun c_5 => ?_)
    · refine lv_iload hx hb dX1_may_30 (lv_at hl 0 rfl) ?_
      refine lv_bipush (v := (-13)) hx hb dX1_may_32 (by decide) ?_
      refine lv_icmp_ne (tgt := 51) hx hb dX1_may_34 (by decide) (fun c_6 => ?_) (fun c_6 => ?_)
      · refine lv_iload hx hb dX1_may_51 (lv_at hl 0 rfl) ?_
        refine lv_if_ne (tgt := 71) hx hb dX1_may_53 (by decide) (fun c_7 => ?_) (fun c_7 => ?_)
        · refine lv_iconst (v := 0) hx hb dX1_may_71 (by decide) ?_
          exact W.iret (v := 0) hx hb hr (fun t ht hW => ⟨⟨0, t_2, rfl, (if_neg c_1).trans ((kb_eq e_3).trans ((if_neg c_5).trans ((if_neg c_6).trans ((if_neg c_7).trans rfl)))), by rw [ht]; exact hP, va_K.moved hW.alike hK, hD⟩, hS.F ht⟩) hS.2.2 dX1_may_72
        · refine lv_aload_n hx hb dX1_may_56 rfl (lv_at hl 1 rfl) ?_
          refine lv_iload_n hx hb dX1_may_57 rfl (lv_at hl 3 rfl) ?_
          refine lv_iconst (v := 3) hx hb dX1_may_58 (by decide) ?_
          refine lv_iand hx hb dX1_may_59 ?_
          refine lv_iload_n hx hb dX1_may_60 rfl (lv_at hl 4 rfl) ?_
          refine vp_callSi (W.runV (C := RX1) (As := [.int (md &&& 3), .int b]) (rest := []) ⟨hx, hb, hml, hown, hts⟩ (c_m_isRight l dC dI h cI n t_2 (md &&& 3) b ) (cwV 2 hts gX1_X1_isRight rfl rfl rfl (by decide +kernel) ⟨Nat.le_of_ble_eq_true rfl, Nat.le_of_ble_eq_true rfl⟩) (m_preP hK hP) rfl rfl hl.1 rfl (lv_room (Nat.le_of_ble_eq_true rfl)) dX1_may_61 ⟨Nat.zero_le _, Nat.zero_le _⟩) (fun r er => ?_)
          subst er
          refine lv_if_eq (tgt := 71) hx hb dX1_may_64 (by decide) (fun c_8 => ?_) (fun c_8 => ?_)
          · refine lv_iconst (v := 0) hx hb dX1_may_71 (by decide) ?_
            exact W.iret (v := 0) hx hb hr (fun t ht hW => ⟨⟨0, t_2, rfl, (if_neg c_1).trans ((kb_eq e_3).trans ((if_neg c_5).trans ((if_neg c_6).trans ((if_pos c_7).trans ((if_pos c_8).trans rfl))))), by rw [ht]; exact hP, va_K.moved hW.alike hK, hD⟩, hS.F ht⟩) hS.2.2 dX1_may_72
          · refine lv_iconst (v := 1) hx hb dX1_may_67 (by decide) ?_
            refine lv_goto (tgt := 72) hx hb dX1_may_68 (by decide) ?_
            exact W.iret (v := 1) hx hb hr (fun t ht hW => ⟨⟨1, t_2, rfl, (if_neg c_1).trans ((kb_eq e_3).trans ((if_neg c_5).trans ((if_neg c_6).trans ((if_pos c_7).trans ((if_neg c_8).trans rfl))))), by rw [ht]; exact hP, va_K.moved hW.alike hK, hD⟩, hS.F ht⟩) hS.2.2 dX1_may_72
      · refine lv_iload_n hx hb dX1_may_37 rfl (lv_at hl 4 rfl) ?_
        refine lv_if_eq (tgt := 48) hx hb dX1_may_38 (by decide) (fun c_9 => ?_) (fun c_9 => ?_)
        · refine lv_iload hx hb dX1_may_48 (lv_at hl 0 rfl) ?_
          exact W.iret (v := r_4) hx hb hr (fun t ht hW => ⟨⟨r_4, t_2, rfl, (if_neg c_1).trans ((kb_eq e_3).trans ((if_neg c_5).trans ((if_pos c_6).trans ((if_pos c_9).trans rfl)))), by rw [ht]; exact hP, va_K.moved hW.alike hK, hD⟩, hS.F ht⟩) hS.2.2 dX1_may_50
        · refine lv_iload hx hb dX1_may_41 (lv_at hl 0 rfl) ?_
          refine lv_iconst (v := 4) hx hb dX1_may_43 (by decide) ?_
          refine lv_isub hx hb dX1_may_44 ?_
          refine lv_goto (tgt := 50) hx hb dX1_may_45 (by decide) ?_
          exact W.iret (v := (r_4 - 4)) hx hb hr (fun t ht hW => ⟨⟨(r_4 - 4), t_2, rfl, (if_neg c_1).trans ((kb_eq e_3).trans ((if_neg c_5).trans ((if_pos c_6).trans ((if_neg c_9).trans rfl)))), by rw [ht]; exact hP, va_K.moved hW.alike hK, hD⟩, hS.F ht⟩) hS.2.2 dX1_may_50
    · refine lv_bipush (v := (-100)) hx hb dX1_may_27 (by decide) ?_
      exact W.iret (v := (-100)) hx hb hr (fun t ht hW => ⟨⟨(-100), t_2, rfl, (if_neg c_1).trans ((kb_eq e_3).trans ((if_pos c_5).trans rfl)), by rw [ht]; exact hP, va_K.moved hW.alike hK, hD⟩, hS.F ht⟩) hS.2.2 dX1_may_29
  · refine lv_iconst (v := 1) hx hb dX1_may_7 (by decide) ?_
    exact W.iret (v := 1) hx hb hr (fun t ht hW => ⟨⟨1, σ, rfl, (if_pos c_1).trans rfl, by rw [ht]; exact hP, va_K.moved hW.alike hK, hD⟩, hS.F ht⟩) hS.2.2 dX1_may_8
