set_option maxHeartbeats 4000000 in
set_option maxRecDepth 100000 in
theorem c_m_code (l : Launch) (dC : Nat → ClassId) (dI : Nat → Nat → Nat) (h : Nat → Nat) (cI : ClassId) (n : Nat) (sz : Nat) (σ : MS) (k : Int32) (w0 : Int32) (r0 : Int32) (hk : vp_in k 16) : Met l yX1_code wsX1_code ({ frames := 0, cells := 0, slots := 0, locals := 0 }) (va_Pc [.ref (h 0), .int k, .int w0, .int r0] (m_BM dC dI h cI n sz σ)) (q_m_code dC dI h cI n σ k w0 r0 (va_A (m_ws h cI n σ) sz)) 0 0 (va_A (m_ws h cI n σ) sz) := by
  refine Met.ofW (cc := cX1_code) (maxL := 4) (ret := none) (by decide) rfl ?_
  intro p e s m args below meth c s₁ B hml hv
  obtain ⟨rfl, hsz, hP, hK, hD0⟩ := hv
  have hx := B.exec
  have hb := B.bytes
  have hr := B.returns
  have hts : ∀ w ∈ bX1, w.before _ s = true := fun w h => atoms_spec (ws := wsX1_code) B.pre w (List.mem_cons_of_mem _ h)
  have hown : s.vm.findClass RX1 = some m.cls := findClass_of_methodNamed B.named
  have hlocks := B.notSynchronized
  subst hsz
  have hD := hD0.self (sz := s.heap.size)
  generalize hAe : va_A (m_ws h cI n σ) s.heap.size = A at hD ⊢
  have hA : ∀ q : Nat, s.heap.size ≤ q → A q := fun q h => by rw [← hAe]; exact Or.inr h
  have hS : va_S A s.heap s.heap [] := va_S.rf
  have hP : va_P (dC, dI) vwCl (m_ws h cI n σ) s.heap := hP
  have hl := lv_entry ([.ref (h 0), .int k, .int w0, .int r0]) (n := 4) (Nat.le_of_ble_eq_true rfl)
  rw [lg_entry_eq]
  generalize (lg_sl ([.ref (h 0), .int k, .int w0, .int r0]) ++ List.replicate (4 - (lg_sl ([.ref (h 0), .int k, .int w0, .int r0])).length) Slot.unset).toArray = ls at hl ⊢
  have hl : lv_has ls 4 [(0, .ref (h 0)), (1, .int k), (2, .int w0), (3, .int r0)] := hl
  refine lv_aload_n hx hb dX1_code_0 rfl (lv_at hl 0 rfl) ?_
  refine va_get (D := (dC, dI)) (ci := 1) (v := .ref (h 7)) (C := RX1) (T := TX1) (N := 14) hx hb hts inbX1 hown hK hP 0 rfl rfl 8 (by decide) (hts _ bX1_8) (fun _ h9 => h9) rfl dX1_code_1 ?_
  refine lv_iload_n hx hb dX1_code_4 rfl (lv_at hl 1 rfl) ?_
  refine lv_iload_n hx hb dX1_code_5 rfl (lv_at hl 2 rfl) ?_
  refine va_iast hx hb hK hP hD hS 7 0 rfl rfl hk dX1_code_6 (fun H locs hP hD hS => ?_)
  have hP := m_pWr hP
  have hD := m_dWr hD
  refine lv_aload_n hx hb dX1_code_7 rfl (lv_at hl 0 rfl) ?_
  refine va_get (D := (dC, dI)) (ci := 1) (v := .ref (h 8)) (C := RX1) (T := TX1) (N := 14) hx hb hts inbX1 hown hK hP 0 rfl rfl 9 (by decide) (hts _ bX1_9) (fun _ h9 => h9) rfl dX1_code_8 ?_
  refine lv_iload_n hx hb dX1_code_11 rfl (lv_at hl 1 rfl) ?_
  refine lv_iload_n hx hb dX1_code_12 rfl (lv_at hl 3 rfl) ?_
  refine va_iast hx hb hK hP hD hS 8 0 rfl rfl hk dX1_code_13 (fun H locs hP hD hS => ?_)
  have hP := m_pRd hP
  have hD := m_dRd hD
  exact W.vret hx hb hr (fun t ht hW => ⟨⟨(m_sRd (m_sWr σ (upd (m_wr σ) ((k).toNatClampNeg) w0)) (upd (m_rd (m_sWr σ (upd (m_wr σ) ((k).toNatClampNeg) w0))) ((k).toNatClampNeg) r0)), rfl, rfl, by rw [ht]; exact hP, va_K.moved hW.alike hK, hD⟩, hS.F ht⟩) hS.2.2 dX1_code_14
set_option maxHeartbeats 4000000 in
set_option maxRecDepth 100000 in
theorem c_m_putFour (l : Launch) (dC : Nat → ClassId) (dI : Nat → Nat → Nat) (h : Nat → Nat) (cI : ClassId) (n : Nat) (sz : Nat) (σ : MS) (a : Int32) (v : Int32) (hk : x_in4 2048 a) : Met l yX1_putFour wsX1_putFour ({ frames := 0, cells := 0, slots := 0, locals := 0 }) (va_Pc [.ref (h 0), .int a, .int v] (m_BM dC dI h cI n sz σ)) (q_m_putFour dC dI h cI n σ a v (va_A (m_ws h cI n σ) sz)) 0 0 (va_A (m_ws h cI n σ) sz) := by
  refine Met.ofW (cc := cX1_putFour) (maxL := 4) (ret := none) (by decide) rfl ?_
  intro p e s m args below meth c s₁ B hml hv
  obtain ⟨rfl, hsz, hP, hK, hD0⟩ := hv
  have hx := B.exec
  have hb := B.bytes
  have hr := B.returns
  have hts : ∀ w ∈ bX1, w.before _ s = true := fun w h => atoms_spec (ws := wsX1_putFour) B.pre w (List.mem_cons_of_mem _ h)
  have hown : s.vm.findClass RX1 = some m.cls := findClass_of_methodNamed B.named
  have hlocks := B.notSynchronized
  subst hsz
  have hD := hD0.self (sz := s.heap.size)
  generalize hAe : va_A (m_ws h cI n σ) s.heap.size = A at hD ⊢
  have hA : ∀ q : Nat, s.heap.size ≤ q → A q := fun q h => by rw [← hAe]; exact Or.inr h
  have hS : va_S A s.heap s.heap [] := va_S.rf
  have hP : va_P (dC, dI) vwCl (m_ws h cI n σ) s.heap := hP
  have hl := lv_entry ([.ref (h 0), .int a, .int v]) (n := 4) (Nat.le_of_ble_eq_true rfl)
  rw [lg_entry_eq]
  generalize (lg_sl ([.ref (h 0), .int a, .int v]) ++ List.replicate (4 - (lg_sl ([.ref (h 0), .int a, .int v])).length) Slot.unset).toArray = ls at hl ⊢
  have hl : lv_has ls 4 [(0, .ref (h 0)), (1, .int a), (2, .int v)] := hl
  have key_l1 : ∀ (f j : Nat) (i : Int32) (τ : MS) (H : Heap) (locs : List Loc) (ls : Array Slot), (i = nI j) → (j ≤ 4) → (5 ≤ j + f) → m_putFour n σ a v = m_putFour_l1 n a v f i τ → va_P (dC, dI) vwCl (m_ws h cI n τ) H → va_D A (m_ws h cI n τ) → va_S A s.heap H locs → lv_has ls 4 [(3, .int i), (0, .ref (h 0)), (1, .int a), (2, .int v)] → W p l e (headSpec wsX1_putFour ({ frames := 0, cells := 0, slots := 0, locals := 0 })).room s m ([.ref (h 0), .int a, .int v] : List Value).toArray below meth c H locs 0 0 (MQ below (q_m_putFour dC dI h cI n σ a v A) ([.ref (h 0), .int a, .int v] : List Value).toArray s 0 0 A) (F0 m 2 ls []) := by
    intro f
    induction f with
    | zero => intro j i τ H locs ls ej hj hf; exact absurd hf (by omega)
    | succ f ih =>
      intro j i τ H locs ls ej hj hf hm hP hD hS hl
      refine lv_iload_n hx hb dX1_putFour_2 rfl (lv_at hl 0 rfl) ?_
      refine lv_iconst (v := 4) hx hb dX1_putFour_3 (by decide) ?_
      refine lv_icmp_ge (tgt := 31) hx hb dX1_putFour_4 (by decide) (fun c_101 => ?_) (fun c_101 => ?_)
      · exact W.vret hx hb hr (fun t ht hW => ⟨⟨τ, rfl, hm.trans ((if_pos c_101).trans rfl), by rw [ht]; exact hP, va_K.moved hW.alike hK, hD⟩, hS.F ht⟩) hS.2.2 dX1_putFour_31
      · have hlt : j < 4 := x_ltK ⟨4, by omega, rfl⟩ hj ej (by omega) c_101
        refine lv_aload_n hx hb dX1_putFour_7 rfl (lv_at hl 1 rfl) ?_
        refine va_get (D := (dC, dI)) (ci := 1) (v := .ref (h 1)) (C := RX1) (T := TX1) (N := 14) hx hb hts inbX1 hown hK hP 0 rfl rfl 0 (by decide) (hts _ bX1_0) (fun _ h9 => h9) rfl dX1_putFour_8 ?_
        refine lv_iload_n hx hb dX1_putFour_11 rfl (lv_at hl 2 rfl) ?_
        refine lv_iload_n hx hb dX1_putFour_12 rfl (lv_at hl 0 rfl) ?_
        refine lv_iadd hx hb dX1_putFour_13 ?_
        refine lv_iload_n hx hb dX1_putFour_14 rfl (lv_at hl 3 rfl) ?_
        refine lv_bipush (v := 8) hx hb dX1_putFour_15 (by decide) ?_
        refine lv_iload_n hx hb dX1_putFour_17 rfl (lv_at hl 0 rfl) ?_
        refine lv_imul hx hb dX1_putFour_18 ?_
        refine lv_ishr hx hb dX1_putFour_19 ?_
        refine lv_sipush (v := 255) hx hb dX1_putFour_20 (by decide) ?_
        refine lv_iand hx hb dX1_putFour_23 ?_
        refine va_iast hx hb hK hP hD hS 1 0 rfl rfl (x_in4_at hk ej hlt) dX1_putFour_24 (fun H locs hP hD hS => ?_)
        have hP := m_pMem hP
        have hD := m_dMem hD
        refine lv_iinc (v := (i + 1)) (lv' := [(3, .int (i + 1)), (0, .ref (h 0)), (1, .int a), (2, .int v)]) hx hb dX1_putFour_25 hl (k := 0) rfl rfl (by decide) rfl (fun ls hl => ?_)
        refine lv_goto (tgt := 2) hx hb dX1_putFour_28 (by decide) ?_
        exact ih (j + 1) (i + 1) (m_sMem τ (upd (m_mem τ) (((a + i)).toNatClampNeg) ((v >>> (((8 : Int32) * i) &&& 31)) &&& 255))) _ _ _ (by rw [ej]; exact nI_1 j) (by omega) (by omega) (hm.trans ((if_neg c_101).trans rfl)) hP hD hS (lv_sub hl [0, 1, 2, 3] rfl)
  refine lv_iconst (v := 0) hx hb dX1_putFour_0 (by decide) ?_
  refine lv_istore_n (lv' := [(3, .int 0), (0, .ref (h 0)), (1, .int a), (2, .int v)]) hx hb dX1_putFour_1 rfl hl (by decide) rfl (fun ls hl => ?_)
  exact key_l1 5 0 0 σ _ _ _ nI_0.symm (by omega) (by omega) (rfl) hP hD hS (lv_sub hl [0, 1, 2, 3] rfl)
set_option maxHeartbeats 4000000 in
set_option maxRecDepth 100000 in
theorem c_m_put (l : Launch) (dC : Nat → ClassId) (dI : Nat → Nat → Nat) (h : Nat → Nat) (cI : ClassId) (n : Nat) (sz : Nat) (σ : MS) (a : Int32) (v : Int32) (hn : n ≤ 2048) : Met l yX1_put wsX1_put ({ frames := 1, cells := 0, slots := 0, locals := 21 }) (va_Pc [.ref (h 0), .int a, .int v] (m_BM dC dI h cI n sz σ)) (q_m_put dC dI h cI n σ a v (va_A (m_ws h cI n σ) sz)) 0 0 (va_A (m_ws h cI n σ) sz) := by
  refine Met.ofW (cc := cX1_put) (maxL := 3) (ret := (some .boolean)) (by decide) rfl ?_
  intro p e s m args below meth c s₁ B hml hv
  obtain ⟨rfl, hsz, hP, hK, hD0⟩ := hv
  have hx := B.exec
  have hb := B.bytes
  have hr := B.returns
  have hts : ∀ w ∈ bX1, w.before _ s = true := fun w h => atoms_spec (ws := wsX1_put) B.pre w (List.mem_cons_of_mem _ h)
  have hown : s.vm.findClass RX1 = some m.cls := findClass_of_methodNamed B.named
  have hlocks := B.notSynchronized
  subst hsz
  have hD := hD0.self (sz := s.heap.size)
  generalize hAe : va_A (m_ws h cI n σ) s.heap.size = A at hD ⊢
  have hA : ∀ q : Nat, s.heap.size ≤ q → A q := fun q h => by rw [← hAe]; exact Or.inr h
  have hS : va_S A s.heap s.heap [] := va_S.rf
  have hP : va_P (dC, dI) vwCl (m_ws h cI n σ) s.heap := hP
  have hl := lv_entry ([.ref (h 0), .int a, .int v]) (n := 3) (Nat.le_of_ble_eq_true rfl)
  rw [lg_entry_eq]
  generalize (lg_sl ([.ref (h 0), .int a, .int v]) ++ List.replicate (3 - (lg_sl ([.ref (h 0), .int a, .int v])).length) Slot.unset).toArray = ls at hl ⊢
  have hl : lv_has ls 3 [(0, .ref (h 0)), (1, .int a), (2, .int v)] := hl
  refine lv_aload_n hx hb dX1_put_0 rfl (lv_at hl 0 rfl) ?_
  refine lv_iload_n hx hb dX1_put_1 rfl (lv_at hl 1 rfl) ?_
  refine vp_callSi (W.runV (C := RX1) (As := [.int a]) (rest := []) ⟨hx, hb, hml, hown, hts⟩ (c_m_isThere l dC dI h cI n σ a ) (cwV 1 hts gX1_X1_isThere rfl rfl rfl (by decide +kernel) ⟨Nat.le_of_ble_eq_true rfl, Nat.le_of_ble_eq_true rfl⟩) (m_preP hK hP) rfl rfl hl.1 rfl (lv_room (Nat.le_of_ble_eq_true rfl)) dX1_put_2 ⟨Nat.zero_le _, Nat.zero_le _⟩) (fun r er => ?_)
  subst er
  refine lv_if_ne (tgt := 10) hx hb dX1_put_5 (by decide) (fun c_1 => ?_) (fun c_1 => ?_)
  · refine lv_aload_n hx hb dX1_put_10 rfl (lv_at hl 0 rfl) ?_
    refine va_get (D := (dC, dI)) (ci := 1) (v := .ref (h 1)) (C := RX1) (T := TX1) (N := 14) hx hb hts inbX1 hown hK hP 0 rfl rfl 0 (by decide) (hts _ bX1_0) (fun _ h9 => h9) rfl dX1_put_11 ?_
    refine lv_iload_n hx hb dX1_put_14 rfl (lv_at hl 1 rfl) ?_
    refine lv_iload_n hx hb dX1_put_15 rfl (lv_at hl 2 rfl) ?_
    refine lv_sipush (v := 255) hx hb dX1_put_16 (by decide) ?_
    refine lv_iand hx hb dX1_put_19 ?_
    refine va_iast hx hb hK hP hD hS 1 0 rfl rfl (m_th hn c_1) dX1_put_20 (fun H locs hP hD hS => ?_)
    have hP := m_pMem hP
    have hD := m_dMem hD
    refine lv_iconst (v := 1) hx hb dX1_put_21 (by decide) ?_
    exact W.zret (ty := .boolean) (v := 1) hx hb hr rfl (fun t ht hW => ⟨⟨1, (m_sMem σ (upd (m_mem σ) ((a).toNatClampNeg) (v &&& 255))), rfl, (if_neg c_1).trans rfl, by rw [ht]; exact hP, va_K.moved hW.alike hK, hD⟩, hS.F ht⟩) hS.2.2 dX1_put_22
  · refine lv_iconst (v := 0) hx hb dX1_put_8 (by decide) ?_
    exact W.zret (ty := .boolean) (v := 0) hx hb hr rfl (fun t ht hW => ⟨⟨0, σ, rfl, (if_pos c_1).trans rfl, by rw [ht]; exact hP, va_K.moved hW.alike hK, hD⟩, hS.F ht⟩) hS.2.2 dX1_put_9
set_option maxHeartbeats 4000000 in
set_option maxRecDepth 100000 in
theorem c_m_entry (l : Launch) (dC : Nat → ClassId) (dI : Nat → Nat → Nat) (h : Nat → Nat) (cI : ClassId) (n : Nat) (sz : Nat) (σ : MS) (a : Int32) (v : Int32) (hn : n ≤ 2048) : Met l yX1_entry wsX1_entry ({ frames := 1, cells := 0, slots := 0, locals := 23 }) (va_Pc [.ref (h 0), .int a, .int v] (m_BM dC dI h cI n sz σ)) (q_m_entry dC dI h cI n σ a v (va_A (m_ws h cI n σ) sz)) 0 0 (va_A (m_ws h cI n σ) sz) := by
  refine Met.ofW (cc := cX1_entry) (maxL := 3) (ret := (some .boolean)) (by decide) rfl ?_
  intro p e s m args below meth c s₁ B hml hv
  obtain ⟨rfl, hsz, hP, hK, hD0⟩ := hv
  have hx := B.exec
  have hb := B.bytes
  have hr := B.returns
  have hts : ∀ w ∈ bX1, w.before _ s = true := fun w h => atoms_spec (ws := wsX1_entry) B.pre w (List.mem_cons_of_mem _ h)
  have hown : s.vm.findClass RX1 = some m.cls := findClass_of_methodNamed B.named
  have hlocks := B.notSynchronized
  subst hsz
  have hD := hD0.self (sz := s.heap.size)
  generalize hAe : va_A (m_ws h cI n σ) s.heap.size = A at hD ⊢
  have hA : ∀ q : Nat, s.heap.size ≤ q → A q := fun q h => by rw [← hAe]; exact Or.inr h
  have hS : va_S A s.heap s.heap [] := va_S.rf
  have hP : va_P (dC, dI) vwCl (m_ws h cI n σ) s.heap := hP
  have hl := lv_entry ([.ref (h 0), .int a, .int v]) (n := 3) (Nat.le_of_ble_eq_true rfl)
  rw [lg_entry_eq]
  generalize (lg_sl ([.ref (h 0), .int a, .int v]) ++ List.replicate (3 - (lg_sl ([.ref (h 0), .int a, .int v])).length) Slot.unset).toArray = ls at hl ⊢
  have hl : lv_has ls 3 [(0, .ref (h 0)), (1, .int a), (2, .int v)] := hl
  refine lv_aload_n hx hb dX1_entry_0 rfl (lv_at hl 0 rfl) ?_
  refine lv_iload_n hx hb dX1_entry_1 rfl (lv_at hl 1 rfl) ?_
  refine vp_callSi (W.runV (C := RX1) (As := [.int a]) (rest := []) ⟨hx, hb, hml, hown, hts⟩ (c_m_areFour l dC dI h cI n σ a ) (cwV 1 hts gX1_X1_areFour rfl rfl rfl (by decide +kernel) ⟨Nat.le_of_ble_eq_true rfl, Nat.le_of_ble_eq_true rfl⟩) (m_preP hK hP) rfl rfl hl.1 rfl (lv_room (Nat.le_of_ble_eq_true rfl)) dX1_entry_2 ⟨Nat.zero_le _, Nat.zero_le _⟩) (fun r er => ?_)
  subst er
  refine lv_if_ne (tgt := 10) hx hb dX1_entry_5 (by decide) (fun c_1 => ?_) (fun c_1 => ?_)
  · refine lv_aload_n hx hb dX1_entry_10 rfl (lv_at hl 0 rfl) ?_
    refine lv_iload_n hx hb dX1_entry_11 rfl (lv_at hl 1 rfl) ?_
    refine lv_iload_n hx hb dX1_entry_12 rfl (lv_at hl 2 rfl) ?_
    refine m_callv (f := (m_putFour n σ a v)) (va_runV (C := RX1) (As := [.int a, .int v]) (rest := []) ⟨hx, hb, hml, hown, hts⟩ (c_m_putFour l dC dI h cI n _ σ a v (m_af hn c_1)) (cwV 2 hts gX1_X1_putFour rfl rfl rfl (by decide +kernel) ⟨Nat.le_of_ble_eq_true rfl, Nat.le_of_ble_eq_true rfl⟩) (m_preM hK hP hD) rfl rfl hl.1 rfl (lv_room (Nat.le_of_ble_eq_true rfl)) dX1_entry_13 ⟨Nat.zero_le _, Nat.zero_le _⟩) hP hD hS hA (fun t_2 H locs e_3 hP hD hS => ?_)
    refine lv_iconst (v := 1) hx hb dX1_entry_16 (by decide) ?_
    exact W.zret (ty := .boolean) (v := 1) hx hb hr rfl (fun t ht hW => ⟨⟨1, t_2, rfl, (if_neg c_1).trans ((kv_eq e_3).trans rfl), by rw [ht]; exact hP, va_K.moved hW.alike hK, hD⟩, hS.F ht⟩) hS.2.2 dX1_entry_17
  · refine lv_iconst (v := 0) hx hb dX1_entry_8 (by decide) ?_
    exact W.zret (ty := .boolean) (v := 0) hx hb hr rfl (fun t ht hW => ⟨⟨0, σ, rfl, (if_pos c_1).trans rfl, by rw [ht]; exact hP, va_K.moved hW.alike hK, hD⟩, hS.F ht⟩) hS.2.2 dX1_entry_9
set_option maxHeartbeats 4000000 in
set_option maxRecDepth 100000 in
theorem c_m_forget (l : Launch) (dC : Nat → ClassId) (dI : Nat → Nat → Nat) (h : Nat → Nat) (cI : ClassId) (n : Nat) (sz : Nat) (σ : MS) (fr : Int32) (k : Int32) (hfr : fr = 0) (hk : ∃ K : Nat, K ≤ 16 ∧ k = nI K) : Met l yX1_forget wsX1_forget ({ frames := 0, cells := 0, slots := 0, locals := 0 }) (va_Pc [.ref (h 0), .int fr, .int k] (m_BM dC dI h cI n sz σ)) (q_m_forget dC dI h cI n σ fr k (va_A (m_ws h cI n σ) sz)) 0 0 (va_A (m_ws h cI n σ) sz) := by
  refine Met.ofW (cc := cX1_forget) (maxL := 4) (ret := none) (by decide) rfl ?_
  intro p e s m args below meth c s₁ B hml hv
  obtain ⟨rfl, hsz, hP, hK, hD0⟩ := hv
  have hx := B.exec
  have hb := B.bytes
  have hr := B.returns
  have hts : ∀ w ∈ bX1, w.before _ s = true := fun w h => atoms_spec (ws := wsX1_forget) B.pre w (List.mem_cons_of_mem _ h)
  have hown : s.vm.findClass RX1 = some m.cls := findClass_of_methodNamed B.named
  have hlocks := B.notSynchronized
  subst hsz
  have hD := hD0.self (sz := s.heap.size)
  generalize hAe : va_A (m_ws h cI n σ) s.heap.size = A at hD ⊢
  have hA : ∀ q : Nat, s.heap.size ≤ q → A q := fun q h => by rw [← hAe]; exact Or.inr h
  have hS : va_S A s.heap s.heap [] := va_S.rf
  have hP : va_P (dC, dI) vwCl (m_ws h cI n σ) s.heap := hP
  have hl := lv_entry ([.ref (h 0), .int fr, .int k]) (n := 4) (Nat.le_of_ble_eq_true rfl)
  rw [lg_entry_eq]
  generalize (lg_sl ([.ref (h 0), .int fr, .int k]) ++ List.replicate (4 - (lg_sl ([.ref (h 0), .int fr, .int k])).length) Slot.unset).toArray = ls at hl ⊢
  have hl : lv_has ls 4 [(0, .ref (h 0)), (1, .int fr), (2, .int k)] := hl
  have key_l1 : ∀ (f j : Nat) (i : Int32) (τ : MS) (H : Heap) (locs : List Loc) (ls : Array Slot), (i = nI j) → (j ≤ 16) → (17 ≤ j + f) → m_forget n σ fr k = m_forget_l1 n fr k f i τ → va_P (dC, dI) vwCl (m_ws h cI n τ) H → va_D A (m_ws h cI n τ) → va_S A s.heap H locs → lv_has ls 4 [(3, .int i), (0, .ref (h 0)), (1, .int fr), (2, .int k)] → W p l e (headSpec wsX1_forget ({ frames := 0, cells := 0, slots := 0, locals := 0 })).room s m ([.ref (h 0), .int fr, .int k] : List Value).toArray below meth c H locs 0 0 (MQ below (q_m_forget dC dI h cI n σ fr k A) ([.ref (h 0), .int fr, .int k] : List Value).toArray s 0 0 A) (F0 m 2 ls []) := by
    intro f
    induction f with
    | zero => intro j i τ H locs ls ej hj hf; exact absurd hf (by omega)
    | succ f ih =>
      intro j i τ H locs ls ej hj hf hm hP hD hS hl
      refine lv_iload_n hx hb dX1_forget_2 rfl (lv_at hl 0 rfl) ?_
      refine lv_iload_n hx hb dX1_forget_3 rfl (lv_at hl 3 rfl) ?_
      refine lv_icmp_ge (tgt := 20) hx hb dX1_forget_4 (by decide) (fun c_101 => ?_) (fun c_101 => ?_)
      · exact W.vret hx hb hr (fun t ht hW => ⟨⟨τ, rfl, hm.trans ((if_pos c_101).trans rfl), by rw [ht]; exact hP, va_K.moved hW.alike hK, hD⟩, hS.F ht⟩) hS.2.2 dX1_forget_20
      · have hlt : j < 16 := x_ltK hk hj ej (by omega) c_101
        refine lv_aload_n hx hb dX1_forget_7 rfl (lv_at hl 1 rfl) ?_
        refine va_get (D := (dC, dI)) (ci := 1) (v := .ref (h 4)) (C := RX1) (T := TX1) (N := 14) hx hb hts inbX1 hown hK hP 0 rfl rfl 5 (by decide) (hts _ bX1_5) (fun _ h9 => h9) rfl dX1_forget_8 ?_
        refine lv_iload_n hx hb dX1_forget_11 rfl (lv_at hl 0 rfl) ?_
        refine lv_iconst (v := (-1)) hx hb dX1_forget_12 (by decide) ?_
        refine va_iast hx hb hK hP hD hS 4 0 rfl rfl (by rw [ej]; exact vp_in_nI hlt (by omega)) dX1_forget_13 (fun H locs hP hD hS => ?_)
        have hP := m_pPg hP
        have hD := m_dPg hD
        refine lv_iinc (v := (i + 1)) (lv' := [(3, .int (i + 1)), (0, .ref (h 0)), (1, .int fr), (2, .int k)]) hx hb dX1_forget_14 hl (k := 0) rfl rfl (by decide) rfl (fun ls hl => ?_)
        refine lv_goto (tgt := 2) hx hb dX1_forget_17 (by decide) ?_
        exact ih (j + 1) (i + 1) (m_sPg τ (upd (m_pg τ) ((i).toNatClampNeg) (-1))) _ _ _ (by rw [ej]; exact nI_1 j) (by omega) (by omega) (hm.trans ((if_neg c_101).trans rfl)) hP hD hS (lv_sub hl [0, 1, 2, 3] rfl)
  refine lv_iload_n hx hb dX1_forget_0 rfl (lv_at hl 1 rfl) ?_
  refine lv_istore_n (lv' := [(3, .int fr), (0, .ref (h 0)), (1, .int fr), (2, .int k)]) hx hb dX1_forget_1 rfl hl (by decide) rfl (fun ls hl => ?_)
  exact key_l1 17 0 fr σ _ _ _ hfr (by omega) (by omega) (rfl) hP hD hS (lv_sub hl [0, 1, 2, 3] rfl)
set_option maxHeartbeats 4000000 in
set_option maxRecDepth 100000 in
theorem c_m_region (l : Launch) (dC : Nat → ClassId) (dI : Nat → Nat → Nat) (h : Nat → Nat) (cI : ClassId) (n : Nat) (sz : Nat) (σ : MS) (rg : Int32) (ba : Int32) (le : Int32) : Met l yX1_region wsX1_region ({ frames := 1, cells := 0, slots := 0, locals := 23 }) (va_Pc [.ref (h 0), .int rg, .int ba, .int le] (m_BM dC dI h cI n sz σ)) (q_m_region dC dI h cI n σ rg ba le (va_A (m_ws h cI n σ) sz)) 0 0 (va_A (m_ws h cI n σ) sz) := by
  refine Met.ofW (cc := cX1_region) (maxL := 4) (ret := (some .boolean)) (by decide) rfl ?_
  intro p e s m args below meth c s₁ B hml hv
  obtain ⟨rfl, hsz, hP, hK, hD0⟩ := hv
  have hx := B.exec
  have hb := B.bytes
  have hr := B.returns
  have hts : ∀ w ∈ bX1, w.before _ s = true := fun w h => atoms_spec (ws := wsX1_region) B.pre w (List.mem_cons_of_mem _ h)
  have hown : s.vm.findClass RX1 = some m.cls := findClass_of_methodNamed B.named
  have hlocks := B.notSynchronized
  subst hsz
  have hD := hD0.self (sz := s.heap.size)
  generalize hAe : va_A (m_ws h cI n σ) s.heap.size = A at hD ⊢
  have hA : ∀ q : Nat, s.heap.size ≤ q → A q := fun q h => by rw [← hAe]; exact Or.inr h
  have hS : va_S A s.heap s.heap [] := va_S.rf
  have hP : va_P (dC, dI) vwCl (m_ws h cI n σ) s.heap := hP
  have hl := lv_entry ([.ref (h 0), .int rg, .int ba, .int le]) (n := 4) (Nat.le_of_ble_eq_true rfl)
  rw [lg_entry_eq]
  generalize (lg_sl ([.ref (h 0), .int rg, .int ba, .int le]) ++ List.replicate (4 - (lg_sl ([.ref (h 0), .int rg, .int ba, .int le])).length) Slot.unset).toArray = ls at hl ⊢
  have hl : lv_has ls 4 [(0, .ref (h 0)), (1, .int rg), (2, .int ba), (3, .int le)] := hl
  refine lv_iload_n hx hb dX1_region_0 rfl (lv_at hl 1 rfl) ?_
  refine lv_if_lt (tgt := 9) hx hb dX1_region_1 (by decide) (fun c_1 => ?_) (fun c_1 => ?_)
  · refine lv_iconst (v := 0) hx hb dX1_region_9 (by decide) ?_
    exact W.zret (ty := .boolean) (v := 0) hx hb hr rfl (fun t ht hW => ⟨⟨0, σ, rfl, (if_pos c_1).trans rfl, by rw [ht]; exact hP, va_K.moved hW.alike hK, hD⟩, hS.F ht⟩) hS.2.2 dX1_region_10
  · refine lv_iload_n hx hb dX1_region_4 rfl (lv_at hl 1 rfl) ?_
    refine lv_iconst (v := 3) hx hb dX1_region_5 (by decide) ?_
    refine lv_icmp_lt (tgt := 11) hx hb dX1_region_6 (by decide) (fun c_2 => ?_) (fun c_2 => ?_)
    · refine lv_aload_n hx hb dX1_region_11 rfl (lv_at hl 0 rfl) ?_
      refine va_get (D := (dC, dI)) (ci := 1) (v := .ref (h 2)) (C := RX1) (T := TX1) (N := 14) hx hb hts inbX1 hown hK hP 0 rfl rfl 2 (by decide) (hts _ bX1_2) (fun _ h9 => h9) rfl dX1_region_12 ?_
      refine lv_iload_n hx hb dX1_region_15 rfl (lv_at hl 1 rfl) ?_
      refine lv_iload_n hx hb dX1_region_16 rfl (lv_at hl 2 rfl) ?_
      refine lv_ldc (v := 65535) hx hb hown (hts _ bX1_16) dX1_region_17 ?_
      refine lv_iand hx hb dX1_region_19 ?_
      refine va_iast hx hb hK hP hD hS 2 0 rfl rfl (x_r3b c_1 c_2) dX1_region_20 (fun H locs hP hD hS => ?_)
      have hP := m_pBas hP
      have hD := m_dBas hD
      refine lv_aload_n hx hb dX1_region_21 rfl (lv_at hl 0 rfl) ?_
      refine va_get (D := (dC, dI)) (ci := 1) (v := .ref (h 3)) (C := RX1) (T := TX1) (N := 14) hx hb hts inbX1 hown hK hP 0 rfl rfl 3 (by decide) (hts _ bX1_3) (fun _ h9 => h9) rfl dX1_region_22 ?_
      refine lv_iload_n hx hb dX1_region_25 rfl (lv_at hl 1 rfl) ?_
      refine lv_iload_n hx hb dX1_region_26 rfl (lv_at hl 3 rfl) ?_
      refine lv_ldc (v := 65535) hx hb hown (hts _ bX1_16) dX1_region_27 ?_
      refine lv_iand hx hb dX1_region_29 ?_
      refine va_iast hx hb hK hP hD hS 3 0 rfl rfl (x_r3b c_1 c_2) dX1_region_30 (fun H locs hP hD hS => ?_)
      have hP := m_pLen hP
      have hD := m_dLen hD
      refine lv_aload_n hx hb dX1_region_31 rfl (lv_at hl 0 rfl) ?_
      refine lv_iconst (v := 0) hx hb dX1_region_32 (by decide) ?_
      refine lv_iload_n hx hb dX1_region_33 rfl (lv_at hl 1 rfl) ?_
      refine lv_iconst (v := 2) hx hb dX1_region_34 (by decide) ?_
      refine lv_icmp_ne (tgt := 43) hx hb dX1_region_35 (by decide) (fun c_3 => ?_) (fun c_3 => ?_)
      · refine lv_bipush (v := 8) hx hb dX1_region_43 (by decide) ?_
        refine m_callv (f := (m_forget n (m_sLen (m_sBas σ (upd (m_bas σ) ((rg).toNatClampNeg) (ba &&& 65535))) (upd (m_len (m_sBas σ (upd (m_bas σ) ((rg).toNatClampNeg) (ba &&& 65535)))) ((rg).toNatClampNeg) (le &&& 65535))) 0 8)) (va_runV (C := RX1) (As := [.int 0, .int 8]) (rest := []) ⟨hx, hb, hml, hown, hts⟩ (c_m_forget l dC dI h cI n _ (m_sLen (m_sBas σ (upd (m_bas σ) ((rg).toNatClampNeg) (ba &&& 65535))) (upd (m_len (m_sBas σ (upd (m_bas σ) ((rg).toNatClampNeg) (ba &&& 65535)))) ((rg).toNatClampNeg) (le &&& 65535))) 0 8 rfl ⟨8, by omega, rfl⟩) (cwV 2 hts gX1_X1_forget rfl rfl rfl (by decide +kernel) ⟨Nat.le_of_ble_eq_true rfl, Nat.le_of_ble_eq_true rfl⟩) (m_preM hK hP hD) rfl rfl hl.1 rfl (lv_room (Nat.le_of_ble_eq_true rfl)) dX1_region_45 ⟨Nat.zero_le _, Nat.zero_le _⟩) hP hD hS hA (fun t_4 H locs e_5 hP hD hS => ?_)
        refine lv_iconst (v := 1) hx hb dX1_region_48 (by decide) ?_
        exact W.zret (ty := .boolean) (v := 1) hx hb hr rfl (fun t ht hW => ⟨⟨1, t_4, rfl, (if_neg c_1).trans ((if_pos c_2).trans ((if_neg c_3).trans ((kv_eq e_5).trans rfl))), by rw [ht]; exact hP, va_K.moved hW.alike hK, hD⟩, hS.F ht⟩) hS.2.2 dX1_region_49
      · refine lv_bipush (v := 16) hx hb dX1_region_38 (by decide) ?_
        refine lv_goto (tgt := 45) hx hb dX1_region_40 (by decide) ?_
        refine m_callv (f := (m_forget n (m_sLen (m_sBas σ (upd (m_bas σ) ((rg).toNatClampNeg) (ba &&& 65535))) (upd (m_len (m_sBas σ (upd (m_bas σ) ((rg).toNatClampNeg) (ba &&& 65535)))) ((rg).toNatClampNeg) (le &&& 65535))) 0 16)) (va_runV (C := RX1) (As := [.int 0, .int 16]) (rest := []) ⟨hx, hb, hml, hown, hts⟩ (c_m_forget l dC dI h cI n _ (m_sLen (m_sBas σ (upd (m_bas σ) ((rg).toNatClampNeg) (ba &&& 65535))) (upd (m_len (m_sBas σ (upd (m_bas σ) ((rg).toNatClampNeg) (ba &&& 65535)))) ((rg).toNatClampNeg) (le &&& 65535))) 0 16 rfl ⟨16, by omega, rfl⟩) (cwV 2 hts gX1_X1_forget rfl rfl rfl (by decide +kernel) ⟨Nat.le_of_ble_eq_true rfl, Nat.le_of_ble_eq_true rfl⟩) (m_preM hK hP hD) rfl rfl hl.1 rfl (lv_room (Nat.le_of_ble_eq_true rfl)) dX1_region_45 ⟨Nat.zero_le _, Nat.zero_le _⟩) hP hD hS hA (fun t_6 H locs e_7 hP hD hS => ?_)
        refine lv_iconst (v := 1) hx hb dX1_region_48 (by decide) ?_
        exact W.zret (ty := .boolean) (v := 1) hx hb hr rfl (fun t ht hW => ⟨⟨1, t_6, rfl, (if_neg c_1).trans ((if_pos c_2).trans ((if_pos c_3).trans ((kv_eq e_7).trans rfl))), by rw [ht]; exact hP, va_K.moved hW.alike hK, hD⟩, hS.F ht⟩) hS.2.2 dX1_region_49
    · refine lv_iconst (v := 0) hx hb dX1_region_9 (by decide) ?_
      exact W.zret (ty := .boolean) (v := 0) hx hb hr rfl (fun t ht hW => ⟨⟨0, σ, rfl, (if_neg c_1).trans ((if_neg c_2).trans rfl), by rw [ht]; exact hP, va_K.moved hW.alike hK, hD⟩, hS.F ht⟩) hS.2.2 dX1_region_10
set_option maxHeartbeats 4000000 in
set_option maxRecDepth 100000 in
theorem c_m_map (l : Launch) (dC : Nat → ClassId) (dI : Nat → Nat → Nat) (h : Nat → Nat) (cI : ClassId) (n : Nat) (sz : Nat) (σ : MS) (b : Int32) (hb01 : b = 0 ∨ b = 1) : Met l yX1_map wsX1_map ({ frames := 1, cells := 0, slots := 0, locals := 23 }) (va_Pc [.ref (h 0), .int b] (m_BM dC dI h cI n sz σ)) (q_m_map dC dI h cI n σ b (va_A (m_ws h cI n σ) sz)) 0 0 (va_A (m_ws h cI n σ) sz) := by
  refine Met.ofW (cc := cX1_map) (maxL := 2) (ret := none) (by decide) rfl ?_
  intro p e s m args below meth c s₁ B hml hv
  obtain ⟨rfl, hsz, hP, hK, hD0⟩ := hv
  have hx := B.exec
  have hb := B.bytes
  have hr := B.returns
  have hts : ∀ w ∈ bX1, w.before _ s = true := fun w h => atoms_spec (ws := wsX1_map) B.pre w (List.mem_cons_of_mem _ h)
  have hown : s.vm.findClass RX1 = some m.cls := findClass_of_methodNamed B.named
  have hlocks := B.notSynchronized
  subst hsz
  have hD := hD0.self (sz := s.heap.size)
  generalize hAe : va_A (m_ws h cI n σ) s.heap.size = A at hD ⊢
  have hA : ∀ q : Nat, s.heap.size ≤ q → A q := fun q h => by rw [← hAe]; exact Or.inr h
  have hS : va_S A s.heap s.heap [] := va_S.rf
  have hP : va_P (dC, dI) vwCl (m_ws h cI n σ) s.heap := hP
  have hl := lv_entry ([.ref (h 0), .int b]) (n := 2) (Nat.le_of_ble_eq_true rfl)
  rw [lg_entry_eq]
  generalize (lg_sl ([.ref (h 0), .int b]) ++ List.replicate (2 - (lg_sl ([.ref (h 0), .int b])).length) Slot.unset).toArray = ls at hl ⊢
  have hl : lv_has ls 2 [(0, .ref (h 0)), (1, .int b)] := hl
  refine lv_aload_n hx hb dX1_map_0 rfl (lv_at hl 0 rfl) ?_
  refine lv_iload_n hx hb dX1_map_1 rfl (lv_at hl 1 rfl) ?_
  refine va_put (D := (dC, dI)) (ci := 1) (v := .int b) (ty := .boolean) (C := RX1) (T := TX1) (N := 14) hx hb hts inbX1 tyX1 tyX1_ok nmX1 hown hK hP hD hS 0 rfl rfl 4 (by decide) (hts _ bX1_4) (fun _ h9 => h9) rfl (by decide +kernel) (x_nb hb01) (x_fb hb01) (Nat.le_of_ble_eq_true rfl) dX1_map_2 (fun H locs hP hD hS => ?_)
  have hP := m_pOn hP
  have hD := m_dOn hD
  refine lv_aload_n hx hb dX1_map_5 rfl (lv_at hl 0 rfl) ?_
  refine lv_iconst (v := 0) hx hb dX1_map_6 (by decide) ?_
  refine lv_bipush (v := 16) hx hb dX1_map_7 (by decide) ?_
  refine m_callv (f := (m_forget n (m_sOn σ b) 0 16)) (va_runV (C := RX1) (As := [.int 0, .int 16]) (rest := []) ⟨hx, hb, hml, hown, hts⟩ (c_m_forget l dC dI h cI n _ (m_sOn σ b) 0 16 rfl ⟨16, by omega, rfl⟩) (cwV 2 hts gX1_X1_forget rfl rfl rfl (by decide +kernel) ⟨Nat.le_of_ble_eq_true rfl, Nat.le_of_ble_eq_true rfl⟩) (m_preM hK hP hD) rfl rfl hl.1 rfl (lv_room (Nat.le_of_ble_eq_true rfl)) dX1_map_9 ⟨Nat.zero_le _, Nat.zero_le _⟩) hP hD hS hA (fun t_1 H locs e_2 hP hD hS => ?_)
  exact W.vret hx hb hr (fun t ht hW => ⟨⟨t_1, rfl, (kv_eq e_2).trans rfl, by rw [ht]; exact hP, va_K.moved hW.alike hK, hD⟩, hS.F ht⟩) hS.2.2 dX1_map_12
set_option maxHeartbeats 4000000 in
set_option maxRecDepth 100000 in
theorem c_m_keeps (l : Launch) (dC : Nat → ClassId) (dI : Nat → Nat → Nat) (h : Nat → Nat) (cI : ClassId) (n : Nat) (sz : Nat) (σ : MS) (a : Int32) (v : Int32) (q : Int32) : Met l yX1_keeps wsX1_keeps ({ frames := 2, cells := 0, slots := 0, locals := 40 }) (va_Pc [.ref (h 0), .int a, .int v, .int q] (m_BM dC dI h cI n sz σ)) (q_m_keeps dC dI h cI n σ a v q (va_A (m_ws h cI n σ) sz)) 0 0 (va_A (m_ws h cI n σ) sz) := by
  refine Met.ofW (cc := cX1_keeps) (maxL := 4) (ret := none) (by decide) rfl ?_
  intro p e s m args below meth c s₁ B hml hv
  obtain ⟨rfl, hsz, hP, hK, hD0⟩ := hv
  have hx := B.exec
  have hb := B.bytes
  have hr := B.returns
  have hts : ∀ w ∈ bX1, w.before _ s = true := fun w h => atoms_spec (ws := wsX1_keeps) B.pre w (List.mem_cons_of_mem _ h)
  have hown : s.vm.findClass RX1 = some m.cls := findClass_of_methodNamed B.named
  have hlocks := B.notSynchronized
  subst hsz
  have hD := hD0.self (sz := s.heap.size)
  generalize hAe : va_A (m_ws h cI n σ) s.heap.size = A at hD ⊢
  have hA : ∀ q : Nat, s.heap.size ≤ q → A q := fun q h => by rw [← hAe]; exact Or.inr h
  have hS : va_S A s.heap s.heap [] := va_S.rf
  have hP : va_P (dC, dI) vwCl (m_ws h cI n σ) s.heap := hP
  have hl := lv_entry ([.ref (h 0), .int a, .int v, .int q]) (n := 4) (Nat.le_of_ble_eq_true rfl)
  rw [lg_entry_eq]
  generalize (lg_sl ([.ref (h 0), .int a, .int v, .int q]) ++ List.replicate (4 - (lg_sl ([.ref (h 0), .int a, .int v, .int q])).length) Slot.unset).toArray = ls at hl ⊢
  have hl : lv_has ls 4 [(0, .ref (h 0)), (1, .int a), (2, .int v), (3, .int q)] := hl
  refine lv_aload_n hx hb dX1_keeps_0 rfl (lv_at hl 0 rfl) ?_
  refine va_get (D := (dC, dI)) (ci := 1) (v := .ref (h 4)) (C := RX1) (T := TX1) (N := 14) hx hb hts inbX1 hown hK hP 0 rfl rfl 5 (by decide) (hts _ bX1_5) (fun _ h9 => h9) rfl dX1_keeps_1 ?_
  refine lv_iload_n hx hb dX1_keeps_4 rfl (lv_at hl 1 rfl) ?_
  refine vp_callSi (W.runS (As := [.int a]) (rest := [.ref (h 4)]) ⟨hx, hb, hml, hown, hts⟩ (c_m_slot l a ) (va_cwS 1 hts gX1_X1_slot rfl rfl rfl (by decide +kernel) ⟨Nat.le_of_ble_eq_true rfl, Nat.le_of_ble_eq_true rfl⟩) (fs_pre) rfl rfl hl.1 rfl (lv_room (Nat.le_of_ble_eq_true rfl)) dX1_keeps_5 ⟨Nat.zero_le _, Nat.zero_le _⟩) (fun r er => ?_)
  subst er
  refine lv_iload_n hx hb dX1_keeps_8 rfl (lv_at hl 1 rfl) ?_
  refine lv_ldc (v := 65520) hx hb hown (hts _ bX1_17) dX1_keeps_9 ?_
  refine lv_iand hx hb dX1_keeps_11 ?_
  refine va_iast hx hb hK hP hD hS 4 0 rfl rfl (m_slot_in a) dX1_keeps_12 (fun H locs hP hD hS => ?_)
  have hP := m_pPg hP
  have hD := m_dPg hD
  refine lv_aload_n hx hb dX1_keeps_13 rfl (lv_at hl 0 rfl) ?_
  refine va_get (D := (dC, dI)) (ci := 1) (v := .ref (h 5)) (C := RX1) (T := TX1) (N := 14) hx hb hts inbX1 hown hK hP 0 rfl rfl 6 (by decide) (hts _ bX1_6) (fun _ h9 => h9) rfl dX1_keeps_14 ?_
  refine lv_iload_n hx hb dX1_keeps_17 rfl (lv_at hl 1 rfl) ?_
  refine vp_callSi (W.runS (As := [.int a]) (rest := [.ref (h 5)]) ⟨hx, hb, hml, hown, hts⟩ (c_m_slot l a ) (va_cwS 1 hts gX1_X1_slot rfl rfl rfl (by decide +kernel) ⟨Nat.le_of_ble_eq_true rfl, Nat.le_of_ble_eq_true rfl⟩) (fs_pre) rfl rfl hl.1 rfl (lv_room (Nat.le_of_ble_eq_true rfl)) dX1_keeps_18 ⟨Nat.zero_le _, Nat.zero_le _⟩) (fun r er => ?_)
  subst er
  refine lv_iload_n hx hb dX1_keeps_21 rfl (lv_at hl 2 rfl) ?_
  refine va_iast hx hb hK hP hD hS 5 0 rfl rfl (m_slot_in a) dX1_keeps_22 (fun H locs hP hD hS => ?_)
  have hP := m_pEn hP
  have hD := m_dEn hD
  refine lv_aload_n hx hb dX1_keeps_23 rfl (lv_at hl 0 rfl) ?_
  refine va_get (D := (dC, dI)) (ci := 1) (v := .ref (h 6)) (C := RX1) (T := TX1) (N := 14) hx hb hts inbX1 hown hK hP 0 rfl rfl 7 (by decide) (hts _ bX1_7) (fun _ h9 => h9) rfl dX1_keeps_24 ?_
  refine lv_iload_n hx hb dX1_keeps_27 rfl (lv_at hl 1 rfl) ?_
  refine vp_callSi (W.runS (As := [.int a]) (rest := [.ref (h 6)]) ⟨hx, hb, hml, hown, hts⟩ (c_m_slot l a ) (va_cwS 1 hts gX1_X1_slot rfl rfl rfl (by decide +kernel) ⟨Nat.le_of_ble_eq_true rfl, Nat.le_of_ble_eq_true rfl⟩) (fs_pre) rfl rfl hl.1 rfl (lv_room (Nat.le_of_ble_eq_true rfl)) dX1_keeps_28 ⟨Nat.zero_le _, Nat.zero_le _⟩) (fun r er => ?_)
  subst er
  refine lv_iload_n hx hb dX1_keeps_31 rfl (lv_at hl 3 rfl) ?_
  refine va_iast hx hb hK hP hD hS 6 0 rfl rfl (m_slot_in a) dX1_keeps_32 (fun H locs hP hD hS => ?_)
  have hP := m_pPc hP
  have hD := m_dPc hD
  exact W.vret hx hb hr (fun t ht hW => ⟨⟨(m_sPc (m_sEn (m_sPg σ (upd (m_pg σ) (((m_slot a)).toNatClampNeg) (a &&& 65520))) (upd (m_en (m_sPg σ (upd (m_pg σ) (((m_slot a)).toNatClampNeg) (a &&& 65520)))) (((m_slot a)).toNatClampNeg) v)) (upd (m_pc (m_sEn (m_sPg σ (upd (m_pg σ) (((m_slot a)).toNatClampNeg) (a &&& 65520))) (upd (m_en (m_sPg σ (upd (m_pg σ) (((m_slot a)).toNatClampNeg) (a &&& 65520)))) (((m_slot a)).toNatClampNeg) v))) (((m_slot a)).toNatClampNeg) q)), rfl, rfl, by rw [ht]; exact hP, va_K.moved hW.alike hK, hD⟩, hS.F ht⟩) hS.2.2 dX1_keeps_33
set_option maxHeartbeats 4000000 in
set_option maxRecDepth 100000 in
theorem c_m_drop (l : Launch) (dC : Nat → ClassId) (dI : Nat → Nat → Nat) (h : Nat → Nat) (cI : ClassId) (n : Nat) (sz : Nat) (σ : MS) (a : Int32) : Met l yX1_drop wsX1_drop ({ frames := 3, cells := 0, slots := 0, locals := 61 }) (va_Pc [.ref (h 0), .int a] (m_BM dC dI h cI n sz σ)) (q_m_drop dC dI h cI n σ a (va_A (m_ws h cI n σ) sz)) 0 0 (va_A (m_ws h cI n σ) sz) := by
  refine Met.ofW (cc := cX1_drop) (maxL := 3) (ret := (some .boolean)) (by decide) rfl ?_
  intro p e s m args below meth c s₁ B hml hv
  obtain ⟨rfl, hsz, hP, hK, hD0⟩ := hv
  have hx := B.exec
  have hb := B.bytes
  have hr := B.returns
  have hts : ∀ w ∈ bX1, w.before _ s = true := fun w h => atoms_spec (ws := wsX1_drop) B.pre w (List.mem_cons_of_mem _ h)
  have hown : s.vm.findClass RX1 = some m.cls := findClass_of_methodNamed B.named
  have hlocks := B.notSynchronized
  subst hsz
  have hD := hD0.self (sz := s.heap.size)
  generalize hAe : va_A (m_ws h cI n σ) s.heap.size = A at hD ⊢
  have hA : ∀ q : Nat, s.heap.size ≤ q → A q := fun q h => by rw [← hAe]; exact Or.inr h
  have hS : va_S A s.heap s.heap [] := va_S.rf
  have hP : va_P (dC, dI) vwCl (m_ws h cI n σ) s.heap := hP
  have hl := lv_entry ([.ref (h 0), .int a]) (n := 3) (Nat.le_of_ble_eq_true rfl)
  rw [lg_entry_eq]
  generalize (lg_sl ([.ref (h 0), .int a]) ++ List.replicate (3 - (lg_sl ([.ref (h 0), .int a])).length) Slot.unset).toArray = ls at hl ⊢
  have hl : lv_has ls 3 [(0, .ref (h 0)), (1, .int a)] := hl
  refine lv_iload_n hx hb dX1_drop_0 rfl (lv_at hl 1 rfl) ?_
  refine lv_ldc (v := 65535) hx hb hown (hts _ bX1_16) dX1_drop_1 ?_
  refine lv_iand hx hb dX1_drop_3 ?_
  refine lv_istore_n (lv' := [(2, .int (a &&& 65535)), (0, .ref (h 0)), (1, .int a)]) hx hb dX1_drop_4 rfl hl (by decide) rfl (fun ls hl => ?_)
  refine lv_aload_n hx hb dX1_drop_5 rfl (lv_at hl 1 rfl) ?_
  refine lv_iload_n hx hb dX1_drop_6 rfl (lv_at hl 0 rfl) ?_
  refine vp_callSi (W.runV (C := RX1) (As := [.int (a &&& 65535)]) (rest := []) ⟨hx, hb, hml, hown, hts⟩ (c_m_isKept l dC dI h cI n σ (a &&& 65535) ) (cwV 1 hts gX1_X1_isKept rfl rfl rfl (by decide +kernel) ⟨Nat.le_of_ble_eq_true rfl, Nat.le_of_ble_eq_true rfl⟩) (m_preP hK hP) rfl rfl hl.1 rfl (lv_room (Nat.le_of_ble_eq_true rfl)) dX1_drop_7 ⟨Nat.zero_le _, Nat.zero_le _⟩) (fun r er => ?_)
  subst er
  refine lv_if_ne (tgt := 15) hx hb dX1_drop_10 (by decide) (fun c_1 => ?_) (fun c_1 => ?_)
  · refine lv_aload_n hx hb dX1_drop_15 rfl (lv_at hl 1 rfl) ?_
    refine va_get (D := (dC, dI)) (ci := 1) (v := .ref (h 4)) (C := RX1) (T := TX1) (N := 14) hx hb hts inbX1 hown hK hP 0 rfl rfl 5 (by decide) (hts _ bX1_5) (fun _ h9 => h9) rfl dX1_drop_16 ?_
    refine lv_iload_n hx hb dX1_drop_19 rfl (lv_at hl 0 rfl) ?_
    refine vp_callSi (W.runS (As := [.int (a &&& 65535)]) (rest := [.ref (h 4)]) ⟨hx, hb, hml, hown, hts⟩ (c_m_slot l (a &&& 65535) ) (va_cwS 1 hts gX1_X1_slot rfl rfl rfl (by decide +kernel) ⟨Nat.le_of_ble_eq_true rfl, Nat.le_of_ble_eq_true rfl⟩) (fs_pre) rfl rfl hl.1 rfl (lv_room (Nat.le_of_ble_eq_true rfl)) dX1_drop_20 ⟨Nat.zero_le _, Nat.zero_le _⟩) (fun r er => ?_)
    subst er
    refine lv_iconst (v := (-1)) hx hb dX1_drop_23 (by decide) ?_
    refine va_iast hx hb hK hP hD hS 4 0 rfl rfl (m_slot_in _) dX1_drop_24 (fun H locs hP hD hS => ?_)
    have hP := m_pPg hP
    have hD := m_dPg hD
    refine lv_iconst (v := 1) hx hb dX1_drop_25 (by decide) ?_
    exact W.zret (ty := .boolean) (v := 1) hx hb hr rfl (fun t ht hW => ⟨⟨1, (m_sPg σ (upd (m_pg σ) (((m_slot (a &&& 65535))).toNatClampNeg) (-1))), rfl, (if_neg c_1).trans rfl, by rw [ht]; exact hP, va_K.moved hW.alike hK, hD⟩, hS.F ht⟩) hS.2.2 dX1_drop_26
  · refine lv_iconst (v := 0) hx hb dX1_drop_13 (by decide) ?_
    exact W.zret (ty := .boolean) (v := 0) hx hb hr rfl (fun t ht hW => ⟨⟨0, σ, rfl, (if_pos c_1).trans rfl, by rw [ht]; exact hP, va_K.moved hW.alike hK, hD⟩, hS.F ht⟩) hS.2.2 dX1_drop_14
