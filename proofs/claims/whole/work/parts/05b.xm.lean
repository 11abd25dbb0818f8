set_option maxHeartbeats 4000000 in
set_option maxRecDepth 100000 in
theorem c_x_keepEntry (l : Launch) (dC : Nat → ClassId) (dI : Nat → Nat → Nat) (h : Nat → Nat) (cB cI : ClassId) (n : Nat) (sz : Nat) (σ : XS) (k : Int32) (a : Int32) (v : Int32) (q : Int32) (hk : vp_in k 16) : Met l yX0_keepEntry wsX0_keepEntry ({ frames := 0, cells := 0, slots := 0, locals := 0 }) (va_Pc [.ref (h 0), .int k, .int a, .int v, .int q] (x_BM dC dI h cB cI n sz σ)) (q_x_keepEntry dC dI h cB cI n σ k a v q (va_A (x_ws h cB cI n σ) sz)) 0 0 (va_A (x_ws h cB cI n σ) sz) := by
  refine Met.ofW (cc := cX0_keepEntry) (maxL := 5) (ret := none) (by decide) rfl ?_
  intro p e s m args below meth c s₁ B hml hv
  obtain ⟨rfl, hsz, hP, hK, hD0⟩ := hv
  have hx := B.exec
  have hb := B.bytes
  have hr := B.returns
  have hts : ∀ w ∈ bX0, w.before _ s = true := fun w h => atoms_spec (ws := wsX0_keepEntry) B.pre w (List.mem_cons_of_mem _ h)
  have hown : s.vm.findClass RX0 = some m.cls := findClass_of_methodNamed B.named
  have hlocks := B.notSynchronized
  subst hsz
  have hD := hD0.self (sz := s.heap.size)
  generalize hAe : va_A (x_ws h cB cI n σ) s.heap.size = A at hD ⊢
  have hA : ∀ q : Nat, s.heap.size ≤ q → A q := fun q h => by rw [← hAe]; exact Or.inr h
  have hS : va_S A s.heap s.heap [] := va_S.rf
  have hP : va_P (dC, dI) vwCl (x_ws h cB cI n σ) s.heap := hP
  have hl := lv_entry ([.ref (h 0), .int k, .int a, .int v, .int q]) (n := 5) (Nat.le_of_ble_eq_true rfl)
  rw [lg_entry_eq]
  generalize (lg_sl ([.ref (h 0), .int k, .int a, .int v, .int q]) ++ List.replicate (5 - (lg_sl ([.ref (h 0), .int k, .int a, .int v, .int q])).length) Slot.unset).toArray = ls at hl ⊢
  have hl : lv_has ls 5 [(0, .ref (h 0)), (1, .int k), (2, .int a), (3, .int v), (4, .int q)] := hl
  refine lv_aload_n hx hb dX0_keepEntry_0 rfl (lv_at hl 0 rfl) ?_
  refine va_get (D := (dC, dI)) (ci := 0) (v := .ref (h 4)) (C := RX0) (T := TX0) (N := 9) hx hb hts inbX0 hown hK hP 0 rfl rfl 5 (by decide) (hts _ bX0_5) (fun _ h9 => h9) rfl dX0_keepEntry_1 ?_
  refine lv_iload_n hx hb dX0_keepEntry_4 rfl (lv_at hl 1 rfl) ?_
  refine lv_iload_n hx hb dX0_keepEntry_5 rfl (lv_at hl 2 rfl) ?_
  refine lv_bipush (v := 16) hx hb dX0_keepEntry_6 (by decide) ?_
  refine lv_idiv hx hb dX0_keepEntry_8 (by decide) ?_
  refine va_iast hx hb hK hP hD hS 4 1 rfl rfl hk dX0_keepEntry_9 (fun H locs hP hD hS => ?_)
  have hP : va_P (dC, dI) vwCl (x_ws h cB cI n (x_sKp σ (upd (x_kp σ) ((k).toNatClampNeg) (a / 16)))) H := hP
  have hD : va_D A (x_ws h cB cI n (x_sKp σ (upd (x_kp σ) ((k).toNatClampNeg) (a / 16)))) := hD
  refine lv_aload_n hx hb dX0_keepEntry_10 rfl (lv_at hl 0 rfl) ?_
  refine va_get (D := (dC, dI)) (ci := 0) (v := .ref (h 5)) (C := RX0) (T := TX0) (N := 9) hx hb hts inbX0 hown hK hP 0 rfl rfl 6 (by decide) (hts _ bX0_6) (fun _ h9 => h9) rfl dX0_keepEntry_11 ?_
  refine lv_iload_n hx hb dX0_keepEntry_14 rfl (lv_at hl 1 rfl) ?_
  refine lv_iload_n hx hb dX0_keepEntry_15 rfl (lv_at hl 3 rfl) ?_
  refine va_iast hx hb hK hP hD hS 5 1 rfl rfl hk dX0_keepEntry_16 (fun H locs hP hD hS => ?_)
  have hP : va_P (dC, dI) vwCl (x_ws h cB cI n (x_sKe (x_sKp σ (upd (x_kp σ) ((k).toNatClampNeg) (a / 16))) (upd (x_ke (x_sKp σ (upd (x_kp σ) ((k).toNatClampNeg) (a / 16)))) ((k).toNatClampNeg) v))) H := hP
  have hD : va_D A (x_ws h cB cI n (x_sKe (x_sKp σ (upd (x_kp σ) ((k).toNatClampNeg) (a / 16))) (upd (x_ke (x_sKp σ (upd (x_kp σ) ((k).toNatClampNeg) (a / 16)))) ((k).toNatClampNeg) v))) := hD
  refine lv_aload_n hx hb dX0_keepEntry_17 rfl (lv_at hl 0 rfl) ?_
  refine va_get (D := (dC, dI)) (ci := 0) (v := .ref (h 6)) (C := RX0) (T := TX0) (N := 9) hx hb hts inbX0 hown hK hP 0 rfl rfl 7 (by decide) (hts _ bX0_7) (fun _ h9 => h9) rfl dX0_keepEntry_18 ?_
  refine lv_iload_n hx hb dX0_keepEntry_21 rfl (lv_at hl 1 rfl) ?_
  refine lv_iload hx hb dX0_keepEntry_22 (lv_at hl 4 rfl) ?_
  refine va_iast hx hb hK hP hD hS 6 1 rfl rfl hk dX0_keepEntry_24 (fun H locs hP hD hS => ?_)
  have hP : va_P (dC, dI) vwCl (x_ws h cB cI n (x_sKpl (x_sKe (x_sKp σ (upd (x_kp σ) ((k).toNatClampNeg) (a / 16))) (upd (x_ke (x_sKp σ (upd (x_kp σ) ((k).toNatClampNeg) (a / 16)))) ((k).toNatClampNeg) v)) (upd (x_kpl (x_sKe (x_sKp σ (upd (x_kp σ) ((k).toNatClampNeg) (a / 16))) (upd (x_ke (x_sKp σ (upd (x_kp σ) ((k).toNatClampNeg) (a / 16)))) ((k).toNatClampNeg) v))) ((k).toNatClampNeg) q))) H := hP
  have hD : va_D A (x_ws h cB cI n (x_sKpl (x_sKe (x_sKp σ (upd (x_kp σ) ((k).toNatClampNeg) (a / 16))) (upd (x_ke (x_sKp σ (upd (x_kp σ) ((k).toNatClampNeg) (a / 16)))) ((k).toNatClampNeg) v)) (upd (x_kpl (x_sKe (x_sKp σ (upd (x_kp σ) ((k).toNatClampNeg) (a / 16))) (upd (x_ke (x_sKp σ (upd (x_kp σ) ((k).toNatClampNeg) (a / 16)))) ((k).toNatClampNeg) v))) ((k).toNatClampNeg) q))) := hD
  exact W.vret hx hb hr (fun t ht hW => ⟨⟨(x_sKpl (x_sKe (x_sKp σ (upd (x_kp σ) ((k).toNatClampNeg) (a / 16))) (upd (x_ke (x_sKp σ (upd (x_kp σ) ((k).toNatClampNeg) (a / 16)))) ((k).toNatClampNeg) v)) (upd (x_kpl (x_sKe (x_sKp σ (upd (x_kp σ) ((k).toNatClampNeg) (a / 16))) (upd (x_ke (x_sKp σ (upd (x_kp σ) ((k).toNatClampNeg) (a / 16)))) ((k).toNatClampNeg) v))) ((k).toNatClampNeg) q)), rfl, rfl, by rw [ht]; exact hP, va_K.moved hW.alike hK, hD⟩, hS.F ht⟩) hS.2.2 dX0_keepEntry_25
set_option maxHeartbeats 4000000 in
set_option maxRecDepth 100000 in
theorem c_x_markWritten (l : Launch) (dC : Nat → ClassId) (dI : Nat → Nat → Nat) (h : Nat → Nat) (cB cI : ClassId) (n : Nat) (sz : Nat) (σ : XS) (k : Int32) (hk : vp_in k 16) (hq : vp_in (x_kpl σ k.toNatClampNeg + 4 - 1) n) : Met l yX0_markWritten wsX0_markWritten ({ frames := 0, cells := 0, slots := 0, locals := 0 }) (va_Pc [.ref (h 0), .int k] (x_BM dC dI h cB cI n sz σ)) (q_x_markWritten dC dI h cB cI n σ k (va_A (x_ws h cB cI n σ) sz)) 0 0 (va_A (x_ws h cB cI n σ) sz) := by
  refine Met.ofW (cc := cX0_markWritten) (maxL := 2) (ret := none) (by decide) rfl ?_
  intro p e s m args below meth c s₁ B hml hv
  obtain ⟨rfl, hsz, hP, hK, hD0⟩ := hv
  have hx := B.exec
  have hb := B.bytes
  have hr := B.returns
  have hts : ∀ w ∈ bX0, w.before _ s = true := fun w h => atoms_spec (ws := wsX0_markWritten) B.pre w (List.mem_cons_of_mem _ h)
  have hown : s.vm.findClass RX0 = some m.cls := findClass_of_methodNamed B.named
  have hlocks := B.notSynchronized
  subst hsz
  have hD := hD0.self (sz := s.heap.size)
  generalize hAe : va_A (x_ws h cB cI n σ) s.heap.size = A at hD ⊢
  have hA : ∀ q : Nat, s.heap.size ≤ q → A q := fun q h => by rw [← hAe]; exact Or.inr h
  have hS : va_S A s.heap s.heap [] := va_S.rf
  have hP : va_P (dC, dI) vwCl (x_ws h cB cI n σ) s.heap := hP
  have hl := lv_entry ([.ref (h 0), .int k]) (n := 2) (Nat.le_of_ble_eq_true rfl)
  rw [lg_entry_eq]
  generalize (lg_sl ([.ref (h 0), .int k]) ++ List.replicate (2 - (lg_sl ([.ref (h 0), .int k])).length) Slot.unset).toArray = ls at hl ⊢
  have hl : lv_has ls 2 [(0, .ref (h 0)), (1, .int k)] := hl
  refine lv_aload_n hx hb dX0_markWritten_0 rfl (lv_at hl 0 rfl) ?_
  refine va_get (D := (dC, dI)) (ci := 0) (v := .ref (h 5)) (C := RX0) (T := TX0) (N := 9) hx hb hts inbX0 hown hK hP 0 rfl rfl 6 (by decide) (hts _ bX0_6) (fun _ h9 => h9) rfl dX0_markWritten_1 ?_
  refine lv_iload_n hx hb dX0_markWritten_4 rfl (lv_at hl 1 rfl) ?_
  refine va_iald hx hb hK hP 5 1 rfl rfl hk dX0_markWritten_5 ?_
  refine lv_ldc (v := 67108864) hx hb hown (hts _ bX0_16) dX0_markWritten_6 ?_
  refine lv_iand hx hb dX0_markWritten_8 ?_
  refine lv_if_eq (tgt := 13) hx hb dX0_markWritten_9 (by decide) (fun c_1 => ?_) (fun c_1 => ?_)
  · refine lv_aload_n hx hb dX0_markWritten_13 rfl (lv_at hl 0 rfl) ?_
    refine va_get (D := (dC, dI)) (ci := 0) (v := .ref (h 5)) (C := RX0) (T := TX0) (N := 9) hx hb hts inbX0 hown hK hP 0 rfl rfl 6 (by decide) (hts _ bX0_6) (fun _ h9 => h9) rfl dX0_markWritten_14 ?_
    refine lv_iload_n hx hb dX0_markWritten_17 rfl (lv_at hl 1 rfl) ?_
    refine lv_dup2_11 hx hb dX0_markWritten_18 rfl rfl ?_
    refine va_iald hx hb hK hP 5 1 rfl rfl hk dX0_markWritten_19 ?_
    refine lv_ldc (v := 67108864) hx hb hown (hts _ bX0_16) dX0_markWritten_20 ?_
    refine lv_ior hx hb dX0_markWritten_22 ?_
    refine va_iast hx hb hK hP hD hS 5 1 rfl rfl hk dX0_markWritten_23 (fun H locs hP hD hS => ?_)
    have hP : va_P (dC, dI) vwCl (x_ws h cB cI n (x_sKe σ (upd (x_ke σ) ((k).toNatClampNeg) ((x_ke σ (k).toNatClampNeg) ||| 67108864)))) H := hP
    have hD : va_D A (x_ws h cB cI n (x_sKe σ (upd (x_ke σ) ((k).toNatClampNeg) ((x_ke σ (k).toNatClampNeg) ||| 67108864)))) := hD
    refine lv_aload_n hx hb dX0_markWritten_24 rfl (lv_at hl 0 rfl) ?_
    refine va_get (D := (dC, dI)) (ci := 0) (v := .ref (h 1)) (C := RX0) (T := TX0) (N := 9) hx hb hts inbX0 hown hK hP 0 rfl rfl 0 (by decide) (hts _ bX0_0) (fun _ h9 => h9) rfl dX0_markWritten_25 ?_
    refine lv_aload_n hx hb dX0_markWritten_28 rfl (lv_at hl 0 rfl) ?_
    refine va_get (D := (dC, dI)) (ci := 0) (v := .ref (h 6)) (C := RX0) (T := TX0) (N := 9) hx hb hts inbX0 hown hK hP 0 rfl rfl 7 (by decide) (hts _ bX0_7) (fun _ h9 => h9) rfl dX0_markWritten_29 ?_
    refine lv_iload_n hx hb dX0_markWritten_32 rfl (lv_at hl 1 rfl) ?_
    refine va_iald hx hb hK hP 6 1 rfl rfl hk dX0_markWritten_33 ?_
    refine lv_iconst (v := 4) hx hb dX0_markWritten_34 (by decide) ?_
    refine lv_iadd hx hb dX0_markWritten_35 ?_
    refine lv_iconst (v := 1) hx hb dX0_markWritten_36 (by decide) ?_
    refine lv_isub hx hb dX0_markWritten_37 ?_
    refine lv_dup2_11 hx hb dX0_markWritten_38 rfl rfl ?_
    refine va_bald hx hb hK hP 1 0 rfl rfl hq dX0_markWritten_39 ?_
    refine lv_iconst (v := 4) hx hb dX0_markWritten_40 (by decide) ?_
    refine lv_ior hx hb dX0_markWritten_41 ?_
    refine lv_i2b (v := ((((x_mem (x_sKe σ (upd (x_ke σ) ((k).toNatClampNeg) ((x_ke σ (k).toNatClampNeg) ||| 67108864))) ((((x_kpl (x_sKe σ (upd (x_ke σ) ((k).toNatClampNeg) ((x_ke σ (k).toNatClampNeg) ||| 67108864))) (k).toNatClampNeg) + 4) - 1)).toNatClampNeg) ||| 4)).toInt8.toInt32)) hx hb dX0_markWritten_42 rfl ?_
    refine va_bast hx hb hK hP hD hS 1 0 rfl rfl hq dX0_markWritten_43 (fun H locs hP hD hS => ?_)
    have hP : va_P (dC, dI) vwCl (x_ws h cB cI n (x_sMem (x_sKe σ (upd (x_ke σ) ((k).toNatClampNeg) ((x_ke σ (k).toNatClampNeg) ||| 67108864))) (upd (x_mem (x_sKe σ (upd (x_ke σ) ((k).toNatClampNeg) ((x_ke σ (k).toNatClampNeg) ||| 67108864)))) (((((x_kpl (x_sKe σ (upd (x_ke σ) ((k).toNatClampNeg) ((x_ke σ (k).toNatClampNeg) ||| 67108864))) (k).toNatClampNeg) + 4) - 1)).toNatClampNeg) (vp_nar .byte ((((x_mem (x_sKe σ (upd (x_ke σ) ((k).toNatClampNeg) ((x_ke σ (k).toNatClampNeg) ||| 67108864))) ((((x_kpl (x_sKe σ (upd (x_ke σ) ((k).toNatClampNeg) ((x_ke σ (k).toNatClampNeg) ||| 67108864))) (k).toNatClampNeg) + 4) - 1)).toNatClampNeg) ||| 4)).toInt8.toInt32))))) H := hP
    have hD : va_D A (x_ws h cB cI n (x_sMem (x_sKe σ (upd (x_ke σ) ((k).toNatClampNeg) ((x_ke σ (k).toNatClampNeg) ||| 67108864))) (upd (x_mem (x_sKe σ (upd (x_ke σ) ((k).toNatClampNeg) ((x_ke σ (k).toNatClampNeg) ||| 67108864)))) (((((x_kpl (x_sKe σ (upd (x_ke σ) ((k).toNatClampNeg) ((x_ke σ (k).toNatClampNeg) ||| 67108864))) (k).toNatClampNeg) + 4) - 1)).toNatClampNeg) (vp_nar .byte ((((x_mem (x_sKe σ (upd (x_ke σ) ((k).toNatClampNeg) ((x_ke σ (k).toNatClampNeg) ||| 67108864))) ((((x_kpl (x_sKe σ (upd (x_ke σ) ((k).toNatClampNeg) ((x_ke σ (k).toNatClampNeg) ||| 67108864))) (k).toNatClampNeg) + 4) - 1)).toNatClampNeg) ||| 4)).toInt8.toInt32))))) := hD
    exact W.vret hx hb hr (fun t ht hW => ⟨⟨(x_sMem (x_sKe σ (upd (x_ke σ) ((k).toNatClampNeg) ((x_ke σ (k).toNatClampNeg) ||| 67108864))) (upd (x_mem (x_sKe σ (upd (x_ke σ) ((k).toNatClampNeg) ((x_ke σ (k).toNatClampNeg) ||| 67108864)))) (((((x_kpl (x_sKe σ (upd (x_ke σ) ((k).toNatClampNeg) ((x_ke σ (k).toNatClampNeg) ||| 67108864))) (k).toNatClampNeg) + 4) - 1)).toNatClampNeg) (vp_nar .byte ((((x_mem (x_sKe σ (upd (x_ke σ) ((k).toNatClampNeg) ((x_ke σ (k).toNatClampNeg) ||| 67108864))) ((((x_kpl (x_sKe σ (upd (x_ke σ) ((k).toNatClampNeg) ((x_ke σ (k).toNatClampNeg) ||| 67108864))) (k).toNatClampNeg) + 4) - 1)).toNatClampNeg) ||| 4)).toInt8.toInt32)))), rfl, (if_pos c_1).trans rfl, by rw [ht]; exact hP, va_K.moved hW.alike hK, hD⟩, hS.F ht⟩) hS.2.2 dX0_markWritten_44
  · exact W.vret hx hb hr (fun t ht hW => ⟨⟨σ, rfl, (if_neg c_1).trans rfl, by rw [ht]; exact hP, va_K.moved hW.alike hK, hD⟩, hS.F ht⟩) hS.2.2 dX0_markWritten_12
set_option maxHeartbeats 4000000 in
set_option maxRecDepth 100000 in
theorem c_x_noteFault (l : Launch) (dC : Nat → ClassId) (dI : Nat → Nat → Nat) (h : Nat → Nat) (cB cI : ClassId) (n : Nat) (sz : Nat) (σ : XS) (k : Int32) (a : Int32) : Met l yX0_noteFault wsX0_noteFault ({ frames := 0, cells := 0, slots := 0, locals := 0 }) (va_Pc [.ref (h 0), .int k, .int a] (x_BM dC dI h cB cI n sz σ)) (q_x_noteFault dC dI h cB cI n σ k a (va_A (x_ws h cB cI n σ) sz)) 0 0 (va_A (x_ws h cB cI n σ) sz) := by
  refine Met.ofW (cc := cX0_noteFault) (maxL := 3) (ret := none) (by decide) rfl ?_
  intro p e s m args below meth c s₁ B hml hv
  obtain ⟨rfl, hsz, hP, hK, hD0⟩ := hv
  have hx := B.exec
  have hb := B.bytes
  have hr := B.returns
  have hts : ∀ w ∈ bX0, w.before _ s = true := fun w h => atoms_spec (ws := wsX0_noteFault) B.pre w (List.mem_cons_of_mem _ h)
  have hown : s.vm.findClass RX0 = some m.cls := findClass_of_methodNamed B.named
  have hlocks := B.notSynchronized
  subst hsz
  have hD := hD0.self (sz := s.heap.size)
  generalize hAe : va_A (x_ws h cB cI n σ) s.heap.size = A at hD ⊢
  have hA : ∀ q : Nat, s.heap.size ≤ q → A q := fun q h => by rw [← hAe]; exact Or.inr h
  have hS : va_S A s.heap s.heap [] := va_S.rf
  have hP : va_P (dC, dI) vwCl (x_ws h cB cI n σ) s.heap := hP
  have hl := lv_entry ([.ref (h 0), .int k, .int a]) (n := 3) (Nat.le_of_ble_eq_true rfl)
  rw [lg_entry_eq]
  generalize (lg_sl ([.ref (h 0), .int k, .int a]) ++ List.replicate (3 - (lg_sl ([.ref (h 0), .int k, .int a])).length) Slot.unset).toArray = ls at hl ⊢
  have hl : lv_has ls 3 [(0, .ref (h 0)), (1, .int k), (2, .int a)] := hl
  refine lv_iload_n hx hb dX0_noteFault_0 rfl (lv_at hl 1 rfl) ?_
  refine lv_bipush (v := (-100)) hx hb dX0_noteFault_1 (by decide) ?_
  refine lv_icmp_eq (tgt := 11) hx hb dX0_noteFault_3 (by decide) (fun c_1 => ?_) (fun c_1 => ?_)
  · exact W.vret hx hb hr (fun t ht hW => ⟨⟨σ, rfl, (if_pos c_1).trans rfl, by rw [ht]; exact hP, va_K.moved hW.alike hK, hD⟩, hS.F ht⟩) hS.2.2 dX0_noteFault_11
  · refine lv_aload_n hx hb dX0_noteFault_6 rfl (lv_at hl 0 rfl) ?_
    refine lv_iload_n hx hb dX0_noteFault_7 rfl (lv_at hl 2 rfl) ?_
    refine va_put (D := (dC, dI)) (ci := 0) (v := .int a) (ty := .int) (C := RX0) (T := TX0) (N := 9) hx hb hts inbX0 tyX0 tyX0_ok nmX0 hown hK hP hD hS 0 rfl rfl 4 (by decide) (hts _ bX0_4) (fun _ h9 => h9) rfl (by decide +kernel) rfl rfl (Nat.le_of_ble_eq_true rfl) dX0_noteFault_8 (fun H locs hP hD hS => ?_)
    have hP : va_P (dC, dI) vwCl (x_ws h cB cI n (x_sFa σ a)) H := hP
    have hD : va_D A (x_ws h cB cI n (x_sFa σ a)) := hD
    exact W.vret hx hb hr (fun t ht hW => ⟨⟨(x_sFa σ a), rfl, (if_neg c_1).trans rfl, by rw [ht]; exact hP, va_K.moved hW.alike hK, hD⟩, hS.F ht⟩) hS.2.2 dX0_noteFault_11
set_option maxHeartbeats 4000000 in
set_option maxRecDepth 100000 in
theorem c_x_forget (l : Launch) (dC : Nat → ClassId) (dI : Nat → Nat → Nat) (h : Nat → Nat) (cB cI : ClassId) (n : Nat) (sz : Nat) (σ : XS) (k : Int32) (hk : ∃ K : Nat, K ≤ 16 ∧ k = nI K) : Met l yX0_forget wsX0_forget ({ frames := 0, cells := 0, slots := 0, locals := 0 }) (va_Pc [.ref (h 0), .int k] (x_BM dC dI h cB cI n sz σ)) (q_x_forget dC dI h cB cI n σ k (va_A (x_ws h cB cI n σ) sz)) 0 0 (va_A (x_ws h cB cI n σ) sz) := by
  refine Met.ofW (cc := cX0_forget) (maxL := 3) (ret := none) (by decide) rfl ?_
  intro p e s m args below meth c s₁ B hml hv
  obtain ⟨rfl, hsz, hP, hK, hD0⟩ := hv
  have hx := B.exec
  have hb := B.bytes
  have hr := B.returns
  have hts : ∀ w ∈ bX0, w.before _ s = true := fun w h => atoms_spec (ws := wsX0_forget) B.pre w (List.mem_cons_of_mem _ h)
  have hown : s.vm.findClass RX0 = some m.cls := findClass_of_methodNamed B.named
  have hlocks := B.notSynchronized
  subst hsz
  have hD := hD0.self (sz := s.heap.size)
  generalize hAe : va_A (x_ws h cB cI n σ) s.heap.size = A at hD ⊢
  have hA : ∀ q : Nat, s.heap.size ≤ q → A q := fun q h => by rw [← hAe]; exact Or.inr h
  have hS : va_S A s.heap s.heap [] := va_S.rf
  have hP : va_P (dC, dI) vwCl (x_ws h cB cI n σ) s.heap := hP
  have hl := lv_entry ([.ref (h 0), .int k]) (n := 3) (Nat.le_of_ble_eq_true rfl)
  rw [lg_entry_eq]
  generalize (lg_sl ([.ref (h 0), .int k]) ++ List.replicate (3 - (lg_sl ([.ref (h 0), .int k])).length) Slot.unset).toArray = ls at hl ⊢
  have hl : lv_has ls 3 [(0, .ref (h 0)), (1, .int k)] := hl
  have key_l1 : ∀ (f j : Nat) (i : Int32) (τ : XS) (H : Heap) (locs : List Loc) (ls : Array Slot), (i = nI j) → (j ≤ 16) → (17 ≤ j + f) → x_forget n σ k = x_forget_l1 n k f i τ → va_P (dC, dI) vwCl (x_ws h cB cI n τ) H → va_D A (x_ws h cB cI n τ) → va_S A s.heap H locs → lv_has ls 3 [(2, .int i), (0, .ref (h 0)), (1, .int k)] → W p l e (headSpec wsX0_forget ({ frames := 0, cells := 0, slots := 0, locals := 0 })).room s m ([.ref (h 0), .int k] : List Value).toArray below meth c H locs 0 0 (MQ below (q_x_forget dC dI h cB cI n σ k A) ([.ref (h 0), .int k] : List Value).toArray s 0 0 A) (F0 m 2 ls []) := by
    intro f
    induction f with
    | zero => intro j i τ H locs ls ej hj hf; exact absurd hf (by omega)
    | succ f ih =>
      intro j i τ H locs ls ej hj hf hm hP hD hS hl
      refine lv_iload_n hx hb dX0_forget_2 rfl (lv_at hl 0 rfl) ?_
      refine lv_iload_n hx hb dX0_forget_3 rfl (lv_at hl 2 rfl) ?_
      refine lv_icmp_ge (tgt := 20) hx hb dX0_forget_4 (by decide) (fun c_101 => ?_) (fun c_101 => ?_)
      · exact W.vret hx hb hr (fun t ht hW => ⟨⟨τ, rfl, hm.trans ((if_pos c_101).trans rfl), by rw [ht]; exact hP, va_K.moved hW.alike hK, hD⟩, hS.F ht⟩) hS.2.2 dX0_forget_20
      · have hlt : j < 16 := x_ltK hk hj ej (by omega) c_101
        refine lv_aload_n hx hb dX0_forget_7 rfl (lv_at hl 1 rfl) ?_
        refine va_get (D := (dC, dI)) (ci := 0) (v := .ref (h 4)) (C := RX0) (T := TX0) (N := 9) hx hb hts inbX0 hown hK hP 0 rfl rfl 5 (by decide) (hts _ bX0_5) (fun _ h9 => h9) rfl dX0_forget_8 ?_
        refine lv_iload_n hx hb dX0_forget_11 rfl (lv_at hl 0 rfl) ?_
        refine lv_iconst (v := (-1)) hx hb dX0_forget_12 (by decide) ?_
        refine va_iast hx hb hK hP hD hS 4 1 rfl rfl (by rw [ej]; exact vp_in_nI hlt (by omega)) dX0_forget_13 (fun H locs hP hD hS => ?_)
        have hP : va_P (dC, dI) vwCl (x_ws h cB cI n (x_sKp τ (upd (x_kp τ) ((i).toNatClampNeg) (-1)))) H := hP
        have hD : va_D A (x_ws h cB cI n (x_sKp τ (upd (x_kp τ) ((i).toNatClampNeg) (-1)))) := hD
        refine lv_iinc (v := (i + 1)) (lv' := [(2, .int (i + 1)), (0, .ref (h 0)), (1, .int k)]) hx hb dX0_forget_14 hl (k := 0) rfl rfl (by decide) rfl (fun ls hl => ?_)
        refine lv_goto (tgt := 2) hx hb dX0_forget_17 (by decide) ?_
        exact ih (j + 1) (i + 1) (x_sKp τ (upd (x_kp τ) ((i).toNatClampNeg) (-1))) _ _ _ (by rw [ej]; exact nI_1 j) (by omega) (by omega) (hm.trans ((if_neg c_101).trans rfl)) hP hD hS (lv_sub hl [0, 1, 2] rfl)
  refine lv_iconst (v := 0) hx hb dX0_forget_0 (by decide) ?_
  refine lv_istore_n (lv' := [(2, .int 0), (0, .ref (h 0)), (1, .int k)]) hx hb dX0_forget_1 rfl hl (by decide) rfl (fun ls hl => ?_)
  exact key_l1 17 0 0 σ _ _ _ nI_0.symm (by omega) (by omega) (rfl) hP hD hS (lv_sub hl [0, 1, 2] rfl)
set_option maxHeartbeats 4000000 in
set_option maxRecDepth 100000 in
theorem c_x_put (l : Launch) (dC : Nat → ClassId) (dI : Nat → Nat → Nat) (h : Nat → Nat) (cB cI : ClassId) (n : Nat) (sz : Nat) (σ : XS) (a : Int32) (v : Int32) (hn : n ≤ 2048) : Met l yX0_put wsX0_put ({ frames := 1, cells := 0, slots := 0, locals := 22 }) (va_Pc [.ref (h 0), .int a, .int v] (x_BM dC dI h cB cI n sz σ)) (q_x_put dC dI h cB cI n σ a v (va_A (x_ws h cB cI n σ) sz)) 0 0 (va_A (x_ws h cB cI n σ) sz) := by
  refine Met.ofW (cc := cX0_put) (maxL := 3) (ret := (some .boolean)) (by decide) rfl ?_
  intro p e s m args below meth c s₁ B hml hv
  obtain ⟨rfl, hsz, hP, hK, hD0⟩ := hv
  have hx := B.exec
  have hb := B.bytes
  have hr := B.returns
  have hts : ∀ w ∈ bX0, w.before _ s = true := fun w h => atoms_spec (ws := wsX0_put) B.pre w (List.mem_cons_of_mem _ h)
  have hown : s.vm.findClass RX0 = some m.cls := findClass_of_methodNamed B.named
  have hlocks := B.notSynchronized
  subst hsz
  have hD := hD0.self (sz := s.heap.size)
  generalize hAe : va_A (x_ws h cB cI n σ) s.heap.size = A at hD ⊢
  have hA : ∀ q : Nat, s.heap.size ≤ q → A q := fun q h => by rw [← hAe]; exact Or.inr h
  have hS : va_S A s.heap s.heap [] := va_S.rf
  have hP : va_P (dC, dI) vwCl (x_ws h cB cI n σ) s.heap := hP
  have hl := lv_entry ([.ref (h 0), .int a, .int v]) (n := 3) (Nat.le_of_ble_eq_true rfl)
  rw [lg_entry_eq]
  generalize (lg_sl ([.ref (h 0), .int a, .int v]) ++ List.replicate (3 - (lg_sl ([.ref (h 0), .int a, .int v])).length) Slot.unset).toArray = ls at hl ⊢
  have hl : lv_has ls 3 [(0, .ref (h 0)), (1, .int a), (2, .int v)] := hl
  refine lv_aload_n hx hb dX0_put_0 rfl (lv_at hl 0 rfl) ?_
  refine lv_iload_n hx hb dX0_put_1 rfl (lv_at hl 1 rfl) ?_
  refine lv_iconst (v := 1) hx hb dX0_put_2 (by decide) ?_
  refine vp_callSi (W.runV (C := RX0) (As := [.int a, .int 1]) (rest := []) ⟨hx, hb, hml, hown, hts⟩ (c_x_inMemory l dC dI h cB cI n σ a 1 ) (cwV 2 hts gX0_X0_inMemory rfl rfl rfl (by decide +kernel) ⟨Nat.le_of_ble_eq_true rfl, Nat.le_of_ble_eq_true rfl⟩) (x_preP hK hP) rfl rfl hl.1 rfl (lv_room (Nat.le_of_ble_eq_true rfl)) dX0_put_3 ⟨Nat.zero_le _, Nat.zero_le _⟩) (fun r er => ?_)
  subst er
  refine lv_if_ne (tgt := 11) hx hb dX0_put_6 (by decide) (fun c_1 => ?_) (fun c_1 => ?_)
  · refine lv_aload_n hx hb dX0_put_11 rfl (lv_at hl 0 rfl) ?_
    refine va_get (D := (dC, dI)) (ci := 0) (v := .ref (h 1)) (C := RX0) (T := TX0) (N := 9) hx hb hts inbX0 hown hK hP 0 rfl rfl 0 (by decide) (hts _ bX0_0) (fun _ h9 => h9) rfl dX0_put_12 ?_
    refine lv_iload_n hx hb dX0_put_15 rfl (lv_at hl 1 rfl) ?_
    refine lv_iload_n hx hb dX0_put_16 rfl (lv_at hl 2 rfl) ?_
    refine lv_i2b (v := ((v).toInt8.toInt32)) hx hb dX0_put_17 rfl ?_
    refine va_bast hx hb hK hP hD hS 1 0 rfl rfl (x_inM1 hn c_1) dX0_put_18 (fun H locs hP hD hS => ?_)
    have hP : va_P (dC, dI) vwCl (x_ws h cB cI n (x_sMem σ (upd (x_mem σ) ((a).toNatClampNeg) (vp_nar .byte ((v).toInt8.toInt32))))) H := hP
    have hD : va_D A (x_ws h cB cI n (x_sMem σ (upd (x_mem σ) ((a).toNatClampNeg) (vp_nar .byte ((v).toInt8.toInt32))))) := hD
    refine lv_iconst (v := 1) hx hb dX0_put_19 (by decide) ?_
    exact W.zret (ty := .boolean) (v := 1) hx hb hr rfl (fun t ht hW => ⟨⟨1, (x_sMem σ (upd (x_mem σ) ((a).toNatClampNeg) (vp_nar .byte ((v).toInt8.toInt32)))), rfl, (if_neg c_1).trans rfl, by rw [ht]; exact hP, va_K.moved hW.alike hK, hD⟩, hS.F ht⟩) hS.2.2 dX0_put_20
  · refine lv_iconst (v := 0) hx hb dX0_put_9 (by decide) ?_
    exact W.zret (ty := .boolean) (v := 0) hx hb hr rfl (fun t ht hW => ⟨⟨0, σ, rfl, (if_pos c_1).trans rfl, by rw [ht]; exact hP, va_K.moved hW.alike hK, hD⟩, hS.F ht⟩) hS.2.2 dX0_put_10
set_option maxHeartbeats 4000000 in
set_option maxRecDepth 100000 in
theorem c_x_entry (l : Launch) (dC : Nat → ClassId) (dI : Nat → Nat → Nat) (h : Nat → Nat) (cB cI : ClassId) (n : Nat) (sz : Nat) (σ : XS) (a : Int32) (v : Int32) (hn : n ≤ 2048) : Met l yX0_entry wsX0_entry ({ frames := 1, cells := 0, slots := 0, locals := 22 }) (va_Pc [.ref (h 0), .int a, .int v] (x_BM dC dI h cB cI n sz σ)) (q_x_entry dC dI h cB cI n σ a v (va_A (x_ws h cB cI n σ) sz)) 0 0 (va_A (x_ws h cB cI n σ) sz) := by
  refine Met.ofW (cc := cX0_entry) (maxL := 4) (ret := (some .boolean)) (by decide) rfl ?_
  intro p e s m args below meth c s₁ B hml hv
  obtain ⟨rfl, hsz, hP, hK, hD0⟩ := hv
  have hx := B.exec
  have hb := B.bytes
  have hr := B.returns
  have hts : ∀ w ∈ bX0, w.before _ s = true := fun w h => atoms_spec (ws := wsX0_entry) B.pre w (List.mem_cons_of_mem _ h)
  have hown : s.vm.findClass RX0 = some m.cls := findClass_of_methodNamed B.named
  have hlocks := B.notSynchronized
  subst hsz
  have hD := hD0.self (sz := s.heap.size)
  generalize hAe : va_A (x_ws h cB cI n σ) s.heap.size = A at hD ⊢
  have hA : ∀ q : Nat, s.heap.size ≤ q → A q := fun q h => by rw [← hAe]; exact Or.inr h
  have hS : va_S A s.heap s.heap [] := va_S.rf
  have hP : va_P (dC, dI) vwCl (x_ws h cB cI n σ) s.heap := hP
  have hl := lv_entry ([.ref (h 0), .int a, .int v]) (n := 4) (Nat.le_of_ble_eq_true rfl)
  rw [lg_entry_eq]
  generalize (lg_sl ([.ref (h 0), .int a, .int v]) ++ List.replicate (4 - (lg_sl ([.ref (h 0), .int a, .int v])).length) Slot.unset).toArray = ls at hl ⊢
  have hl : lv_has ls 4 [(0, .ref (h 0)), (1, .int a), (2, .int v)] := hl
  have key_l1 : ∀ (f j : Nat) (i : Int32) (τ : XS) (H : Heap) (locs : List Loc) (ls : Array Slot), (i = nI j) → (j ≤ 4) → (5 ≤ j + f) → (x_in4 n a) → x_entry n σ a v = x_entry_l1 n a v f i τ → va_P (dC, dI) vwCl (x_ws h cB cI n τ) H → va_D A (x_ws h cB cI n τ) → va_S A s.heap H locs → lv_has ls 4 [(3, .int i), (0, .ref (h 0)), (1, .int a), (2, .int v)] → W p l e (headSpec wsX0_entry ({ frames := 1, cells := 0, slots := 0, locals := 22 })).room s m ([.ref (h 0), .int a, .int v] : List Value).toArray below meth c H locs 0 0 (MQ below (q_x_entry dC dI h cB cI n σ a v A) ([.ref (h 0), .int a, .int v] : List Value).toArray s 0 0 A) (F0 m 13 ls []) := by
    intro f
    induction f with
    | zero => intro j i τ H locs ls ej hj hf h4; exact absurd hf (by omega)
    | succ f ih =>
      intro j i τ H locs ls ej hj hf h4 hm hP hD hS hl
      refine lv_iload_n hx hb dX0_entry_13 rfl (lv_at hl 0 rfl) ?_
      refine lv_iconst (v := 4) hx hb dX0_entry_14 (by decide) ?_
      refine lv_icmp_ge (tgt := 39) hx hb dX0_entry_15 (by decide) (fun c_101 => ?_) (fun c_101 => ?_)
      · refine lv_iconst (v := 1) hx hb dX0_entry_39 (by decide) ?_
        exact W.zret (ty := .boolean) (v := 1) hx hb hr rfl (fun t ht hW => ⟨⟨1, τ, rfl, hm.trans ((if_pos c_101).trans rfl), by rw [ht]; exact hP, va_K.moved hW.alike hK, hD⟩, hS.F ht⟩) hS.2.2 dX0_entry_40
      · have hlt : j < 4 := x_ltK ⟨4, by omega, rfl⟩ hj ej (by omega) c_101
        refine lv_aload_n hx hb dX0_entry_18 rfl (lv_at hl 1 rfl) ?_
        refine va_get (D := (dC, dI)) (ci := 0) (v := .ref (h 1)) (C := RX0) (T := TX0) (N := 9) hx hb hts inbX0 hown hK hP 0 rfl rfl 0 (by decide) (hts _ bX0_0) (fun _ h9 => h9) rfl dX0_entry_19 ?_
        refine lv_iload_n hx hb dX0_entry_22 rfl (lv_at hl 2 rfl) ?_
        refine lv_iload_n hx hb dX0_entry_23 rfl (lv_at hl 0 rfl) ?_
        refine lv_iadd hx hb dX0_entry_24 ?_
        refine lv_iload_n hx hb dX0_entry_25 rfl (lv_at hl 3 rfl) ?_
        refine lv_bipush (v := 8) hx hb dX0_entry_26 (by decide) ?_
        refine lv_iload_n hx hb dX0_entry_28 rfl (lv_at hl 0 rfl) ?_
        refine lv_imul hx hb dX0_entry_29 ?_
        refine lv_iushr (v := (jushr v ((8 : Int32) * i))) hx hb dX0_entry_30 rfl ?_
        refine lv_i2b (v := (((jushr v ((8 : Int32) * i))).toInt8.toInt32)) hx hb dX0_entry_31 rfl ?_
        refine va_bast hx hb hK hP hD hS 1 0 rfl rfl (x_in4_at h4 ej hlt) dX0_entry_32 (fun H locs hP hD hS => ?_)
        have hP : va_P (dC, dI) vwCl (x_ws h cB cI n (x_sMem τ (upd (x_mem τ) (((a + i)).toNatClampNeg) (vp_nar .byte (((jushr v ((8 : Int32) * i))).toInt8.toInt32))))) H := hP
        have hD : va_D A (x_ws h cB cI n (x_sMem τ (upd (x_mem τ) (((a + i)).toNatClampNeg) (vp_nar .byte (((jushr v ((8 : Int32) * i))).toInt8.toInt32))))) := hD
        refine lv_iinc (v := (i + 1)) (lv' := [(3, .int (i + 1)), (0, .ref (h 0)), (1, .int a), (2, .int v)]) hx hb dX0_entry_33 hl (k := 0) rfl rfl (by decide) rfl (fun ls hl => ?_)
        refine lv_goto (tgt := 13) hx hb dX0_entry_36 (by decide) ?_
        exact ih (j + 1) (i + 1) (x_sMem τ (upd (x_mem τ) (((a + i)).toNatClampNeg) (vp_nar .byte (((jushr v ((8 : Int32) * i))).toInt8.toInt32)))) _ _ _ (by rw [ej]; exact nI_1 j) (by omega) (by omega) h4 (hm.trans ((if_neg c_101).trans rfl)) hP hD hS (lv_sub hl [0, 1, 2, 3] rfl)
  refine lv_aload_n hx hb dX0_entry_0 rfl (lv_at hl 0 rfl) ?_
  refine lv_iload_n hx hb dX0_entry_1 rfl (lv_at hl 1 rfl) ?_
  refine lv_iconst (v := 4) hx hb dX0_entry_2 (by decide) ?_
  refine vp_callSi (W.runV (C := RX0) (As := [.int a, .int 4]) (rest := []) ⟨hx, hb, hml, hown, hts⟩ (c_x_inMemory l dC dI h cB cI n σ a 4 ) (cwV 2 hts gX0_X0_inMemory rfl rfl rfl (by decide +kernel) ⟨Nat.le_of_ble_eq_true rfl, Nat.le_of_ble_eq_true rfl⟩) (x_preP hK hP) rfl rfl hl.1 rfl (lv_room (Nat.le_of_ble_eq_true rfl)) dX0_entry_3 ⟨Nat.zero_le _, Nat.zero_le _⟩) (fun r er => ?_)
  subst er
  refine lv_if_ne (tgt := 11) hx hb dX0_entry_6 (by decide) (fun c_1 => ?_) (fun c_1 => ?_)
  · refine lv_iconst (v := 0) hx hb dX0_entry_11 (by decide) ?_
    refine lv_istore_n (lv' := [(3, .int 0), (0, .ref (h 0)), (1, .int a), (2, .int v)]) hx hb dX0_entry_12 rfl hl (by decide) rfl (fun ls hl => ?_)
    exact key_l1 5 0 0 σ _ _ _ nI_0.symm (by omega) (by omega) (x_inM4 hn c_1) ((if_neg c_1).trans rfl) hP hD hS (lv_sub hl [0, 1, 2, 3] rfl)
  · refine lv_iconst (v := 0) hx hb dX0_entry_9 (by decide) ?_
    exact W.zret (ty := .boolean) (v := 0) hx hb hr rfl (fun t ht hW => ⟨⟨0, σ, rfl, (if_pos c_1).trans rfl, by rw [ht]; exact hP, va_K.moved hW.alike hK, hD⟩, hS.F ht⟩) hS.2.2 dX0_entry_10
set_option maxHeartbeats 4000000 in
set_option maxRecDepth 100000 in
theorem c_x_region (l : Launch) (dC : Nat → ClassId) (dI : Nat → Nat → Nat) (h : Nat → Nat) (cB cI : ClassId) (n : Nat) (sz : Nat) (σ : XS) (rg : Int32) (ba : Int32) (le : Int32) : Met l yX0_region wsX0_region ({ frames := 1, cells := 0, slots := 0, locals := 22 }) (va_Pc [.ref (h 0), .int rg, .int ba, .int le] (x_BM dC dI h cB cI n sz σ)) (q_x_region dC dI h cB cI n σ rg ba le (va_A (x_ws h cB cI n σ) sz)) 0 0 (va_A (x_ws h cB cI n σ) sz) := by
  refine Met.ofW (cc := cX0_region) (maxL := 4) (ret := (some .boolean)) (by decide) rfl ?_
  intro p e s m args below meth c s₁ B hml hv
  obtain ⟨rfl, hsz, hP, hK, hD0⟩ := hv
  have hx := B.exec
  have hb := B.bytes
  have hr := B.returns
  have hts : ∀ w ∈ bX0, w.before _ s = true := fun w h => atoms_spec (ws := wsX0_region) B.pre w (List.mem_cons_of_mem _ h)
  have hown : s.vm.findClass RX0 = some m.cls := findClass_of_methodNamed B.named
  have hlocks := B.notSynchronized
  subst hsz
  have hD := hD0.self (sz := s.heap.size)
  generalize hAe : va_A (x_ws h cB cI n σ) s.heap.size = A at hD ⊢
  have hA : ∀ q : Nat, s.heap.size ≤ q → A q := fun q h => by rw [← hAe]; exact Or.inr h
  have hS : va_S A s.heap s.heap [] := va_S.rf
  have hP : va_P (dC, dI) vwCl (x_ws h cB cI n σ) s.heap := hP
  have hl := lv_entry ([.ref (h 0), .int rg, .int ba, .int le]) (n := 4) (Nat.le_of_ble_eq_true rfl)
  rw [lg_entry_eq]
  generalize (lg_sl ([.ref (h 0), .int rg, .int ba, .int le]) ++ List.replicate (4 - (lg_sl ([.ref (h 0), .int rg, .int ba, .int le])).length) Slot.unset).toArray = ls at hl ⊢
  have hl : lv_has ls 4 [(0, .ref (h 0)), (1, .int rg), (2, .int ba), (3, .int le)] := hl
  refine lv_iload_n hx hb dX0_region_0 rfl (lv_at hl 1 rfl) ?_
  refine lv_if_lt (tgt := 9) hx hb dX0_region_1 (by decide) (fun c_1 => ?_) (fun c_1 => ?_)
  · refine lv_iconst (v := 0) hx hb dX0_region_9 (by decide) ?_
    exact W.zret (ty := .boolean) (v := 0) hx hb hr rfl (fun t ht hW => ⟨⟨0, σ, rfl, (if_pos c_1).trans rfl, by rw [ht]; exact hP, va_K.moved hW.alike hK, hD⟩, hS.F ht⟩) hS.2.2 dX0_region_10
  · refine lv_iload_n hx hb dX0_region_4 rfl (lv_at hl 1 rfl) ?_
    refine lv_iconst (v := 3) hx hb dX0_region_5 (by decide) ?_
    refine lv_icmp_lt (tgt := 11) hx hb dX0_region_6 (by decide) (fun c_2 => ?_) (fun c_2 => ?_)
    · refine lv_aload_n hx hb dX0_region_11 rfl (lv_at hl 0 rfl) ?_
      refine va_get (D := (dC, dI)) (ci := 0) (v := .ref (h 2)) (C := RX0) (T := TX0) (N := 9) hx hb hts inbX0 hown hK hP 0 rfl rfl 1 (by decide) (hts _ bX0_1) (fun _ h9 => h9) rfl dX0_region_12 ?_
      refine lv_iload_n hx hb dX0_region_15 rfl (lv_at hl 1 rfl) ?_
      refine lv_iload_n hx hb dX0_region_16 rfl (lv_at hl 2 rfl) ?_
      refine lv_ldc (v := 65535) hx hb hown (hts _ bX0_11) dX0_region_17 ?_
      refine lv_iand hx hb dX0_region_19 ?_
      refine va_iast hx hb hK hP hD hS 2 1 rfl rfl (x_r3b c_1 c_2) dX0_region_20 (fun H locs hP hD hS => ?_)
      have hP : va_P (dC, dI) vwCl (x_ws h cB cI n (x_sBas σ (upd (x_bas σ) ((rg).toNatClampNeg) (ba &&& 65535)))) H := hP
      have hD : va_D A (x_ws h cB cI n (x_sBas σ (upd (x_bas σ) ((rg).toNatClampNeg) (ba &&& 65535)))) := hD
      refine lv_aload_n hx hb dX0_region_21 rfl (lv_at hl 0 rfl) ?_
      refine va_get (D := (dC, dI)) (ci := 0) (v := .ref (h 3)) (C := RX0) (T := TX0) (N := 9) hx hb hts inbX0 hown hK hP 0 rfl rfl 2 (by decide) (hts _ bX0_2) (fun _ h9 => h9) rfl dX0_region_22 ?_
      refine lv_iload_n hx hb dX0_region_25 rfl (lv_at hl 1 rfl) ?_
      refine lv_iload_n hx hb dX0_region_26 rfl (lv_at hl 3 rfl) ?_
      refine lv_ldc (v := 65535) hx hb hown (hts _ bX0_11) dX0_region_27 ?_
      refine lv_iand hx hb dX0_region_29 ?_
      refine va_iast hx hb hK hP hD hS 3 1 rfl rfl (x_r3b c_1 c_2) dX0_region_30 (fun H locs hP hD hS => ?_)
      have hP : va_P (dC, dI) vwCl (x_ws h cB cI n (x_sLen (x_sBas σ (upd (x_bas σ) ((rg).toNatClampNeg) (ba &&& 65535))) (upd (x_len (x_sBas σ (upd (x_bas σ) ((rg).toNatClampNeg) (ba &&& 65535)))) ((rg).toNatClampNeg) (le &&& 65535)))) H := hP
      have hD : va_D A (x_ws h cB cI n (x_sLen (x_sBas σ (upd (x_bas σ) ((rg).toNatClampNeg) (ba &&& 65535))) (upd (x_len (x_sBas σ (upd (x_bas σ) ((rg).toNatClampNeg) (ba &&& 65535)))) ((rg).toNatClampNeg) (le &&& 65535)))) := hD
      refine lv_aload_n hx hb dX0_region_31 rfl (lv_at hl 0 rfl) ?_
      refine lv_iload_n hx hb dX0_region_32 rfl (lv_at hl 1 rfl) ?_
      refine lv_iconst (v := 2) hx hb dX0_region_33 (by decide) ?_
      refine lv_icmp_ne (tgt := 42) hx hb dX0_region_34 (by decide) (fun c_3 => ?_) (fun c_3 => ?_)
      · refine lv_bipush (v := 8) hx hb dX0_region_42 (by decide) ?_
        refine x_callv (f := (x_forget n (x_sLen (x_sBas σ (upd (x_bas σ) ((rg).toNatClampNeg) (ba &&& 65535))) (upd (x_len (x_sBas σ (upd (x_bas σ) ((rg).toNatClampNeg) (ba &&& 65535)))) ((rg).toNatClampNeg) (le &&& 65535))) 8)) (va_runV (C := RX0) (As := [.int 8]) (rest := []) ⟨hx, hb, hml, hown, hts⟩ (c_x_forget l dC dI h cB cI n _ (x_sLen (x_sBas σ (upd (x_bas σ) ((rg).toNatClampNeg) (ba &&& 65535))) (upd (x_len (x_sBas σ (upd (x_bas σ) ((rg).toNatClampNeg) (ba &&& 65535)))) ((rg).toNatClampNeg) (le &&& 65535))) 8 ⟨8, by omega, rfl⟩) (cwV 1 hts gX0_X0_forget rfl rfl rfl (by decide +kernel) ⟨Nat.le_of_ble_eq_true rfl, Nat.le_of_ble_eq_true rfl⟩) (x_preM hK hP hD) rfl rfl hl.1 rfl (lv_room (Nat.le_of_ble_eq_true rfl)) dX0_region_44 ⟨Nat.zero_le _, Nat.zero_le _⟩) hP hD hS hA (fun t_4 H locs e_5 hP hD hS => ?_)
        refine lv_iconst (v := 1) hx hb dX0_region_47 (by decide) ?_
        exact W.zret (ty := .boolean) (v := 1) hx hb hr rfl (fun t ht hW => ⟨⟨1, t_4, rfl, (if_neg c_1).trans ((if_pos c_2).trans ((if_neg c_3).trans ((kv_eq e_5).trans rfl))), by rw [ht]; exact hP, va_K.moved hW.alike hK, hD⟩, hS.F ht⟩) hS.2.2 dX0_region_48
      · refine lv_bipush (v := 16) hx hb dX0_region_37 (by decide) ?_
        refine lv_goto (tgt := 44) hx hb dX0_region_39 (by decide) ?_
        refine x_callv (f := (x_forget n (x_sLen (x_sBas σ (upd (x_bas σ) ((rg).toNatClampNeg) (ba &&& 65535))) (upd (x_len (x_sBas σ (upd (x_bas σ) ((rg).toNatClampNeg) (ba &&& 65535)))) ((rg).toNatClampNeg) (le &&& 65535))) 16)) (va_runV (C := RX0) (As := [.int 16]) (rest := []) ⟨hx, hb, hml, hown, hts⟩ (c_x_forget l dC dI h cB cI n _ (x_sLen (x_sBas σ (upd (x_bas σ) ((rg).toNatClampNeg) (ba &&& 65535))) (upd (x_len (x_sBas σ (upd (x_bas σ) ((rg).toNatClampNeg) (ba &&& 65535)))) ((rg).toNatClampNeg) (le &&& 65535))) 16 ⟨16, by omega, rfl⟩) (cwV 1 hts gX0_X0_forget rfl rfl rfl (by decide +kernel) ⟨Nat.le_of_ble_eq_true rfl, Nat.le_of_ble_eq_true rfl⟩) (x_preM hK hP hD) rfl rfl hl.1 rfl (lv_room (Nat.le_of_ble_eq_true rfl)) dX0_region_44 ⟨Nat.zero_le _, Nat.zero_le _⟩) hP hD hS hA (fun t_6 H locs e_7 hP hD hS => ?_)
        refine lv_iconst (v := 1) hx hb dX0_region_47 (by decide) ?_
        exact W.zret (ty := .boolean) (v := 1) hx hb hr rfl (fun t ht hW => ⟨⟨1, t_6, rfl, (if_neg c_1).trans ((if_pos c_2).trans ((if_pos c_3).trans ((kv_eq e_7).trans rfl))), by rw [ht]; exact hP, va_K.moved hW.alike hK, hD⟩, hS.F ht⟩) hS.2.2 dX0_region_48
    · refine lv_iconst (v := 0) hx hb dX0_region_9 (by decide) ?_
      exact W.zret (ty := .boolean) (v := 0) hx hb hr rfl (fun t ht hW => ⟨⟨0, σ, rfl, (if_neg c_1).trans ((if_neg c_2).trans rfl), by rw [ht]; exact hP, va_K.moved hW.alike hK, hD⟩, hS.F ht⟩) hS.2.2 dX0_region_10
set_option maxHeartbeats 4000000 in
set_option maxRecDepth 100000 in
theorem c_x_map (l : Launch) (dC : Nat → ClassId) (dI : Nat → Nat → Nat) (h : Nat → Nat) (cB cI : ClassId) (n : Nat) (sz : Nat) (σ : XS) (b : Int32) (hb01 : b = 0 ∨ b = 1) : Met l yX0_map wsX0_map ({ frames := 1, cells := 0, slots := 0, locals := 22 }) (va_Pc [.ref (h 0), .int b] (x_BM dC dI h cB cI n sz σ)) (q_x_map dC dI h cB cI n σ b (va_A (x_ws h cB cI n σ) sz)) 0 0 (va_A (x_ws h cB cI n σ) sz) := by
  refine Met.ofW (cc := cX0_map) (maxL := 2) (ret := none) (by decide) rfl ?_
  intro p e s m args below meth c s₁ B hml hv
  obtain ⟨rfl, hsz, hP, hK, hD0⟩ := hv
  have hx := B.exec
  have hb := B.bytes
  have hr := B.returns
  have hts : ∀ w ∈ bX0, w.before _ s = true := fun w h => atoms_spec (ws := wsX0_map) B.pre w (List.mem_cons_of_mem _ h)
  have hown : s.vm.findClass RX0 = some m.cls := findClass_of_methodNamed B.named
  have hlocks := B.notSynchronized
  subst hsz
  have hD := hD0.self (sz := s.heap.size)
  generalize hAe : va_A (x_ws h cB cI n σ) s.heap.size = A at hD ⊢
  have hA : ∀ q : Nat, s.heap.size ≤ q → A q := fun q h => by rw [← hAe]; exact Or.inr h
  have hS : va_S A s.heap s.heap [] := va_S.rf
  have hP : va_P (dC, dI) vwCl (x_ws h cB cI n σ) s.heap := hP
  have hl := lv_entry ([.ref (h 0), .int b]) (n := 2) (Nat.le_of_ble_eq_true rfl)
  rw [lg_entry_eq]
  generalize (lg_sl ([.ref (h 0), .int b]) ++ List.replicate (2 - (lg_sl ([.ref (h 0), .int b])).length) Slot.unset).toArray = ls at hl ⊢
  have hl : lv_has ls 2 [(0, .ref (h 0)), (1, .int b)] := hl
  refine lv_aload_n hx hb dX0_map_0 rfl (lv_at hl 0 rfl) ?_
  refine lv_iload_n hx hb dX0_map_1 rfl (lv_at hl 1 rfl) ?_
  refine va_put (D := (dC, dI)) (ci := 0) (v := .int b) (ty := .boolean) (C := RX0) (T := TX0) (N := 9) hx hb hts inbX0 tyX0 tyX0_ok nmX0 hown hK hP hD hS 0 rfl rfl 3 (by decide) (hts _ bX0_3) (fun _ h9 => h9) rfl (by decide +kernel) (x_nb hb01) (x_fb hb01) (Nat.le_of_ble_eq_true rfl) dX0_map_2 (fun H locs hP hD hS => ?_)
  have hP : va_P (dC, dI) vwCl (x_ws h cB cI n (x_sMp σ b)) H := hP
  have hD : va_D A (x_ws h cB cI n (x_sMp σ b)) := hD
  refine lv_aload_n hx hb dX0_map_5 rfl (lv_at hl 0 rfl) ?_
  refine lv_bipush (v := 16) hx hb dX0_map_6 (by decide) ?_
  refine x_callv (f := (x_forget n (x_sMp σ b) 16)) (va_runV (C := RX0) (As := [.int 16]) (rest := []) ⟨hx, hb, hml, hown, hts⟩ (c_x_forget l dC dI h cB cI n _ (x_sMp σ b) 16 ⟨16, by omega, rfl⟩) (cwV 1 hts gX0_X0_forget rfl rfl rfl (by decide +kernel) ⟨Nat.le_of_ble_eq_true rfl, Nat.le_of_ble_eq_true rfl⟩) (x_preM hK hP hD) rfl rfl hl.1 rfl (lv_room (Nat.le_of_ble_eq_true rfl)) dX0_map_8 ⟨Nat.zero_le _, Nat.zero_le _⟩) hP hD hS hA (fun t_1 H locs e_2 hP hD hS => ?_)
  exact W.vret hx hb hr (fun t ht hW => ⟨⟨t_1, rfl, (kv_eq e_2).trans rfl, by rw [ht]; exact hP, va_K.moved hW.alike hK, hD⟩, hS.F ht⟩) hS.2.2 dX0_map_11
set_option maxHeartbeats 4000000 in
set_option maxRecDepth 100000 in
theorem c_x_drop (l : Launch) (dC : Nat → ClassId) (dI : Nat → Nat → Nat) (h : Nat → Nat) (cB cI : ClassId) (n : Nat) (sz : Nat) (σ : XS) (a : Int32) : Met l yX0_drop wsX0_drop ({ frames := 2, cells := 0, slots := 0, locals := 41 }) (va_Pc [.ref (h 0), .int a] (x_BM dC dI h cB cI n sz σ)) (q_x_drop dC dI h cB cI n σ a (va_A (x_ws h cB cI n σ) sz)) 0 0 (va_A (x_ws h cB cI n σ) sz) := by
  refine Met.ofW (cc := cX0_drop) (maxL := 4) (ret := (some .boolean)) (by decide) rfl ?_
  intro p e s m args below meth c s₁ B hml hv
  obtain ⟨rfl, hsz, hP, hK, hD0⟩ := hv
  have hx := B.exec
  have hb := B.bytes
  have hr := B.returns
  have hts : ∀ w ∈ bX0, w.before _ s = true := fun w h => atoms_spec (ws := wsX0_drop) B.pre w (List.mem_cons_of_mem _ h)
  have hown : s.vm.findClass RX0 = some m.cls := findClass_of_methodNamed B.named
  have hlocks := B.notSynchronized
  subst hsz
  have hD := hD0.self (sz := s.heap.size)
  generalize hAe : va_A (x_ws h cB cI n σ) s.heap.size = A at hD ⊢
  have hA : ∀ q : Nat, s.heap.size ≤ q → A q := fun q h => by rw [← hAe]; exact Or.inr h
  have hS : va_S A s.heap s.heap [] := va_S.rf
  have hP : va_P (dC, dI) vwCl (x_ws h cB cI n σ) s.heap := hP
  have hl := lv_entry ([.ref (h 0), .int a]) (n := 4) (Nat.le_of_ble_eq_true rfl)
  rw [lg_entry_eq]
  generalize (lg_sl ([.ref (h 0), .int a]) ++ List.replicate (4 - (lg_sl ([.ref (h 0), .int a])).length) Slot.unset).toArray = ls at hl ⊢
  have hl : lv_has ls 4 [(0, .ref (h 0)), (1, .int a)] := hl
  refine lv_iload_n hx hb dX0_drop_0 rfl (lv_at hl 1 rfl) ?_
  refine lv_ldc (v := 65535) hx hb hown (hts _ bX0_11) dX0_drop_1 ?_
  refine lv_iand hx hb dX0_drop_3 ?_
  refine lv_istore_n (lv' := [(2, .int (a &&& 65535)), (0, .ref (h 0)), (1, .int a)]) hx hb dX0_drop_4 rfl hl (by decide) rfl (fun ls hl => ?_)
  refine lv_iload_n hx hb dX0_drop_5 rfl (lv_at hl 0 rfl) ?_
  refine vp_callSi (W.runS (As := [.int (a &&& 65535)]) (rest := []) ⟨hx, hb, hml, hown, hts⟩ (c_x_slotOf l (a &&& 65535) ) (va_cwS 1 hts gX0_X0_slotOf rfl rfl rfl (by decide +kernel) ⟨Nat.le_of_ble_eq_true rfl, Nat.le_of_ble_eq_true rfl⟩) (fs_pre) rfl rfl hl.1 rfl (lv_room (Nat.le_of_ble_eq_true rfl)) dX0_drop_6 ⟨Nat.zero_le _, Nat.zero_le _⟩) (fun r er => ?_)
  subst er
  refine lv_istore_n (lv' := [(3, .int (x_slotOf (a &&& 65535))), (2, .int (a &&& 65535)), (0, .ref (h 0)), (1, .int a)]) hx hb dX0_drop_9 rfl hl (by decide) rfl (fun ls hl => ?_)
  refine lv_aload_n hx hb dX0_drop_10 rfl (lv_at hl 2 rfl) ?_
  refine lv_iload_n hx hb dX0_drop_11 rfl (lv_at hl 0 rfl) ?_
  refine lv_iload_n hx hb dX0_drop_12 rfl (lv_at hl 1 rfl) ?_
  refine vp_callSi (W.runV (C := RX0) (As := [.int (x_slotOf (a &&& 65535)), .int (a &&& 65535)]) (rest := []) ⟨hx, hb, hml, hown, hts⟩ (c_x_counts l dC dI h cB cI n σ (x_slotOf (a &&& 65535)) (a &&& 65535) (x_slot_in _)) (cwV 2 hts gX0_X0_counts rfl rfl rfl (by decide +kernel) ⟨Nat.le_of_ble_eq_true rfl, Nat.le_of_ble_eq_true rfl⟩) (x_preP hK hP) rfl rfl hl.1 rfl (lv_room (Nat.le_of_ble_eq_true rfl)) dX0_drop_13 ⟨Nat.zero_le _, Nat.zero_le _⟩) (fun r er => ?_)
  subst er
  refine lv_if_ne (tgt := 21) hx hb dX0_drop_16 (by decide) (fun c_1 => ?_) (fun c_1 => ?_)
  · refine lv_aload_n hx hb dX0_drop_21 rfl (lv_at hl 2 rfl) ?_
    refine va_get (D := (dC, dI)) (ci := 0) (v := .ref (h 4)) (C := RX0) (T := TX0) (N := 9) hx hb hts inbX0 hown hK hP 0 rfl rfl 5 (by decide) (hts _ bX0_5) (fun _ h9 => h9) rfl dX0_drop_22 ?_
    refine lv_iload_n hx hb dX0_drop_25 rfl (lv_at hl 0 rfl) ?_
    refine lv_iconst (v := (-1)) hx hb dX0_drop_26 (by decide) ?_
    refine va_iast hx hb hK hP hD hS 4 1 rfl rfl (x_slot_in _) dX0_drop_27 (fun H locs hP hD hS => ?_)
    have hP : va_P (dC, dI) vwCl (x_ws h cB cI n (x_sKp σ (upd (x_kp σ) (((x_slotOf (a &&& 65535))).toNatClampNeg) (-1)))) H := hP
    have hD : va_D A (x_ws h cB cI n (x_sKp σ (upd (x_kp σ) (((x_slotOf (a &&& 65535))).toNatClampNeg) (-1)))) := hD
    refine lv_iconst (v := 1) hx hb dX0_drop_28 (by decide) ?_
    exact W.zret (ty := .boolean) (v := 1) hx hb hr rfl (fun t ht hW => ⟨⟨1, (x_sKp σ (upd (x_kp σ) (((x_slotOf (a &&& 65535))).toNatClampNeg) (-1))), rfl, (if_neg c_1).trans rfl, by rw [ht]; exact hP, va_K.moved hW.alike hK, hD⟩, hS.F ht⟩) hS.2.2 dX0_drop_29
  · refine lv_iconst (v := 0) hx hb dX0_drop_19 (by decide) ?_
    exact W.zret (ty := .boolean) (v := 0) hx hb hr rfl (fun t ht hW => ⟨⟨0, σ, rfl, (if_pos c_1).trans rfl, by rw [ht]; exact hP, va_K.moved hW.alike hK, hD⟩, hS.F ht⟩) hS.2.2 dX0_drop_20
