set_option maxHeartbeats 4000000 in
set_option maxRecDepth 100000 in
theorem c_x_findPlaces (l : Launch) (dC : Nat → ClassId) (dI : Nat → Nat → Nat) (h : Nat → Nat) (cB cI : ClassId) (n : Nat) (tw tr : Nat) (sz : Nat) (σ : XS) (a : Int32) (ct : Int32) (md : Int32) (b : Int32) (hn : n ≤ 2048) (hI : x_Inv n σ) (hc : ∃ K : Nat, K ≤ 4 ∧ ct = nI K) : Met l yX0_findPlaces wsX0_findPlaces ({ frames := 5, cells := 0, slots := 0, locals := 123 }) (va_Pc [.ref (h 0), .int a, .int ct, .int md, .int b] (x_BMt dC dI h cB cI n tw tr sz σ)) (q_x_findPlaces dC dI h cB cI n σ a ct md b (va_A (x_ws h cB cI n σ) sz)) 0 0 (va_A (x_ws h cB cI n σ) sz) := by
  refine Met.ofW (cc := cX0_findPlaces) (maxL := 8) (ret := (some .int)) (by decide) rfl ?_
  intro p e s m args below meth c s₁ B hml hv
  obtain ⟨rfl, hsz, hP, hK, hD0, hST⟩ := hv
  have hx := B.exec
  have hb := B.bytes
  have hr := B.returns
  have hts : ∀ w ∈ bX0, w.before _ s = true := fun w h => atoms_spec (ws := wsX0_findPlaces) B.pre w (List.mem_cons_of_mem _ h)
  have hown : s.vm.findClass RX0 = some m.cls := findClass_of_methodNamed B.named
  have hlocks := B.notSynchronized
  subst hsz
  have hD := hD0.self (sz := s.heap.size)
  generalize hAe : va_A (x_ws h cB cI n σ) s.heap.size = A at hD hST ⊢
  have hA : ∀ q : Nat, s.heap.size ≤ q → A q := fun q h => by rw [← hAe]; exact Or.inr h
  have hS : va_S A s.heap s.heap [] := va_S.rf
  have hP : va_P (dC, dI) vwCl (x_ws h cB cI n σ) s.heap := hP
  have hl := lv_entry ([.ref (h 0), .int a, .int ct, .int md, .int b]) (n := 8) (Nat.le_of_ble_eq_true rfl)
  rw [lg_entry_eq]
  generalize (lg_sl ([.ref (h 0), .int a, .int ct, .int md, .int b]) ++ List.replicate (8 - (lg_sl ([.ref (h 0), .int a, .int ct, .int md, .int b])).length) Slot.unset).toArray = ls at hl ⊢
  have hl : lv_has ls 8 [(0, .ref (h 0)), (1, .int a), (2, .int ct), (3, .int md), (4, .int b)] := hl
  have key_l2 : ∀ (f j : Nat) (i : Int32) (τ : XS) (H : Heap) (locs : List Loc) (ls : Array Slot), (i = nI j) → (j ≤ 4) → (5 ≤ j + f) → x_findPlaces n σ a ct md b = x_findPlaces_l2 n a ct md b f i τ → va_P (dC, dI) vwCl (x_ws h cB cI n τ) H → va_D A (x_ws h cB cI n τ) → va_S A s.heap H locs → lv_has ls 8 [(5, .int i), (0, .ref (h 0)), (1, .int a), (2, .int ct), (3, .int md), (4, .int b)] → W p l e (headSpec wsX0_findPlaces ({ frames := 5, cells := 0, slots := 0, locals := 123 })).room s m ([.ref (h 0), .int a, .int ct, .int md, .int b] : List Value).toArray below meth c H locs 0 0 (MQ below (q_x_findPlaces dC dI h cB cI n σ a ct md b A) ([.ref (h 0), .int a, .int ct, .int md, .int b] : List Value).toArray s 0 0 A) (F0 m 98 ls []) := by
    intro f
    induction f with
    | zero => intro j i τ H locs ls ej hj hf; exact absurd hf (by omega)
    | succ f ih =>
      intro j i τ H locs ls ej hj hf hm hP hD hS hl
      refine lv_iload hx hb dX0_findPlaces_98 (lv_at hl 0 rfl) ?_
      refine lv_iload_n hx hb dX0_findPlaces_100 rfl (lv_at hl 3 rfl) ?_
      refine lv_icmp_ge (tgt := 128) hx hb dX0_findPlaces_101 (by decide) (fun c_101 => ?_) (fun c_101 => ?_)
      · refine lv_iconst (v := 0) hx hb dX0_findPlaces_128 (by decide) ?_
        exact W.iret (v := 0) hx hb hr (fun t ht hW => ⟨⟨0, τ, rfl, hm.trans ((if_pos c_101).trans rfl), by rw [ht]; exact hP, va_K.moved hW.alike hK, hD⟩, hS.F ht⟩) hS.2.2 dX0_findPlaces_129
      · have hlt : j < 4 := x_ltK hc hj ej (by omega) c_101
        refine lv_aload_n hx hb dX0_findPlaces_104 rfl (lv_at hl 1 rfl) ?_
        refine lv_aload_n hx hb dX0_findPlaces_105 rfl (lv_at hl 1 rfl) ?_
        refine va_get (D := (dC, dI)) (ci := 0) (v := .ref (h 7)) (C := RX0) (T := TX0) (N := 9) hx hb hts inbX0 hown hK hP 0 rfl rfl 8 (by decide) (hts _ bX0_8) (fun _ h9 => h9) rfl dX0_findPlaces_106 ?_
        refine lv_iload hx hb dX0_findPlaces_109 (lv_at hl 0 rfl) ?_
        refine va_iald hx hb hK hP 7 1 rfl rfl (by rw [ej]; exact vp_in_nI hlt (by omega)) dX0_findPlaces_111 ?_
        refine lv_iconst (v := 1) hx hb dX0_findPlaces_112 (by decide) ?_
        refine vp_callSi (W.runV (C := RX0) (As := [.int (x_pl τ (i).toNatClampNeg), .int 1]) (rest := []) ⟨hx, hb, hml, hown, hts⟩ (c_x_inMemory l dC dI h cB cI n τ (x_pl τ (i).toNatClampNeg) 1 ) (cwV 2 hts gX0_X0_inMemory rfl rfl rfl (by decide +kernel) ⟨Nat.le_of_ble_eq_true rfl, Nat.le_of_ble_eq_true rfl⟩) (x_preP hK hP) rfl rfl hl.1 rfl (lv_room (Nat.le_of_ble_eq_true rfl)) dX0_findPlaces_113 ⟨Nat.zero_le _, Nat.zero_le _⟩) (fun r er => ?_)
        subst er
        refine lv_if_ne (tgt := 122) hx hb dX0_findPlaces_116 (by decide) (fun c_102 => ?_) (fun c_102 => ?_)
        · refine lv_iinc (v := (i + 1)) (lv' := [(5, .int (i + 1)), (0, .ref (h 0)), (1, .int a), (2, .int ct), (3, .int md), (4, .int b)]) hx hb dX0_findPlaces_122 hl (k := 0) rfl rfl (by decide) rfl (fun ls hl => ?_)
          refine lv_goto (tgt := 98) hx hb dX0_findPlaces_125 (by decide) ?_
          exact ih (j + 1) (i + 1) τ _ _ _ (by rw [ej]; exact nI_1 j) (by omega) (by omega) (hm.trans ((if_neg c_101).trans ((if_neg c_102).trans rfl))) hP hD hS (lv_sub hl [0, 1, 2, 3, 4, 5] rfl)
        · refine lv_bipush (v := (-100)) hx hb dX0_findPlaces_119 (by decide) ?_
          exact W.iret (v := (-100)) hx hb hr (fun t ht hW => ⟨⟨(-100), τ, rfl, hm.trans ((if_neg c_101).trans ((if_pos c_102).trans rfl)), by rw [ht]; exact hP, va_K.moved hW.alike hK, hD⟩, hS.F ht⟩) hS.2.2 dX0_findPlaces_121
  have key_l1 : ∀ (f j : Nat) (i : Int32) (τ : XS) (H : Heap) (locs : List Loc) (ls : Array Slot), (i = nI j) → (j ≤ 4) → (5 ≤ j + f) → (x_Inv n τ) → x_findPlaces n σ a ct md b = x_findPlaces_l1 n a ct md b f i τ → va_P (dC, dI) vwCl (x_ws h cB cI n τ) H → va_D A (x_ws h cB cI n τ) → va_S A s.heap H locs → lv_has ls 8 [(5, .int i), (0, .ref (h 0)), (1, .int a), (2, .int ct), (3, .int md), (4, .int b)] → W p l e (headSpec wsX0_findPlaces ({ frames := 5, cells := 0, slots := 0, locals := 123 })).room s m ([.ref (h 0), .int a, .int ct, .int md, .int b] : List Value).toArray below meth c H locs 0 0 (MQ below (q_x_findPlaces dC dI h cB cI n σ a ct md b A) ([.ref (h 0), .int a, .int ct, .int md, .int b] : List Value).toArray s 0 0 A) (F0 m 3 ls []) := by
    intro f
    induction f with
    | zero => intro j i τ H locs ls ej hj hf hI; exact absurd hf (by omega)
    | succ f ih =>
      intro j i τ H locs ls ej hj hf hI hm hP hD hS hl
      refine lv_iload hx hb dX0_findPlaces_3 (lv_at hl 0 rfl) ?_
      refine lv_iload_n hx hb dX0_findPlaces_5 rfl (lv_at hl 3 rfl) ?_
      refine lv_icmp_ge (tgt := 95) hx hb dX0_findPlaces_6 (by decide) (fun c_201 => ?_) (fun c_201 => ?_)
      · refine lv_iconst (v := 0) hx hb dX0_findPlaces_95 (by decide) ?_
        refine lv_istore (lv' := [(5, .int 0), (0, .ref (h 0)), (1, .int a), (2, .int ct), (3, .int md), (4, .int b)]) hx hb dX0_findPlaces_96 hl (by decide) rfl (fun ls hl => ?_)
        exact key_l2 5 0 0 τ _ _ _ nI_0.symm (by omega) (by omega) (hm.trans ((if_pos c_201).trans rfl)) hP hD hS (lv_sub hl [0, 1, 2, 3, 4, 5] rfl)
      · have hlt : j < 4 := x_ltK hc hj ej (by omega) c_201
        refine lv_iload_n hx hb dX0_findPlaces_9 rfl (lv_at hl 2 rfl) ?_
        refine lv_iload hx hb dX0_findPlaces_10 (lv_at hl 0 rfl) ?_
        refine lv_iadd hx hb dX0_findPlaces_12 ?_
        refine lv_ldc (v := 65535) hx hb hown (hts _ bX0_11) dX0_findPlaces_13 ?_
        refine lv_iand hx hb dX0_findPlaces_15 ?_
        refine lv_istore (lv' := [(6, .int ((a + i) &&& 65535)), (5, .int i), (0, .ref (h 0)), (1, .int a), (2, .int ct), (3, .int md), (4, .int b)]) hx hb dX0_findPlaces_16 hl (by decide) rfl (fun ls hl => ?_)
        refine lv_iload hx hb dX0_findPlaces_18 (lv_at hl 1 rfl) ?_
        refine lv_if_le (tgt := 52) hx hb dX0_findPlaces_20 (by decide) (fun c_202 => ?_) (fun c_202 => ?_)
        · refine lv_aload_n hx hb dX0_findPlaces_52 rfl (lv_at hl 2 rfl) ?_
          refine lv_iload hx hb dX0_findPlaces_53 (lv_at hl 0 rfl) ?_
          refine lv_iload_n hx hb dX0_findPlaces_55 rfl (lv_at hl 5 rfl) ?_
          refine lv_iload hx hb dX0_findPlaces_56 (lv_at hl 6 rfl) ?_
          refine lv_iconst (v := 1) hx hb dX0_findPlaces_58 (by decide) ?_
          refine x_calli (f := (x_translate n τ ((a + i) &&& 65535) md b 1)) (va_runV (C := RX0) (As := [.int ((a + i) &&& 65535), .int md, .int b, .int 1]) (rest := []) ⟨hx, hb, hml, hown, hts⟩ (c_x_translate l dC dI h cB cI n tw tr _ τ ((a + i) &&& 65535) md b 1 hn hI (x_mask16 _)) (cwV 4 hts gX0_X0_translate rfl rfl rfl (by decide +kernel) ⟨Nat.le_of_ble_eq_true rfl, Nat.le_of_ble_eq_true rfl⟩) (x_preMt hK hP hD hST hS hA) rfl rfl hl.1 rfl (lv_room (Nat.le_of_ble_eq_true rfl)) dX0_findPlaces_59 ⟨Nat.zero_le _, Nat.zero_le _⟩) hP hD hS hA (fun r_205 t_203 H locs e_204 hP hD hS => ?_)
          have hI := x_tr_inv hn hI (x_mask16 _) e_204
          refine lv_istore (lv' := [(7, .int r_205), (6, .int ((a + i) &&& 65535)), (5, .int i), (0, .ref (h 0)), (1, .int a), (2, .int ct), (3, .int md), (4, .int b)]) hx hb dX0_findPlaces_62 hl (by decide) rfl (fun ls hl => ?_)
          refine lv_iload hx hb dX0_findPlaces_64 (lv_at hl 0 rfl) ?_
          refine lv_if_ge (tgt := 80) hx hb dX0_findPlaces_66 (by decide) (fun c_206 => ?_) (fun c_206 => ?_)
          · refine lv_aload_n hx hb dX0_findPlaces_80 rfl (lv_at hl 3 rfl) ?_
            refine va_get (D := (dC, dI)) (ci := 0) (v := .ref (h 7)) (C := RX0) (T := TX0) (N := 9) hx hb hts inbX0 hown hK hP 0 rfl rfl 8 (by decide) (hts _ bX0_8) (fun _ h9 => h9) rfl dX0_findPlaces_81 ?_
            refine lv_iload hx hb dX0_findPlaces_84 (lv_at hl 2 rfl) ?_
            refine lv_iload hx hb dX0_findPlaces_86 (lv_at hl 0 rfl) ?_
            refine va_iast hx hb hK hP hD hS 7 1 rfl rfl (by rw [ej]; exact vp_in_nI hlt (by omega)) dX0_findPlaces_88 (fun H locs hP hD hS => ?_)
            have hP : va_P (dC, dI) vwCl (x_ws h cB cI n (x_sPl t_203 (upd (x_pl t_203) ((i).toNatClampNeg) r_205))) H := hP
            have hD : va_D A (x_ws h cB cI n (x_sPl t_203 (upd (x_pl t_203) ((i).toNatClampNeg) r_205))) := hD
            refine lv_iinc (v := (i + 1)) (lv' := [(5, .int (i + 1)), (7, .int r_205), (6, .int ((a + i) &&& 65535)), (0, .ref (h 0)), (1, .int a), (2, .int ct), (3, .int md), (4, .int b)]) hx hb dX0_findPlaces_89 hl (k := 2) rfl rfl (by decide) rfl (fun ls hl => ?_)
            refine lv_goto (tgt := 3) hx hb dX0_findPlaces_92 (by decide) ?_
            exact ih (j + 1) (i + 1) (x_sPl t_203 (upd (x_pl t_203) ((i).toNatClampNeg) r_205)) _ _ _ (by rw [ej]; exact nI_1 j) (by omega) (by omega) hI (hm.trans ((if_neg c_201).trans ((if_pos c_202).trans ((kb_eq e_204).trans ((if_pos c_206).trans rfl))))) hP hD hS (lv_sub hl [0, 3, 4, 5, 6, 7] rfl)
          · refine lv_aload_n hx hb dX0_findPlaces_69 rfl (lv_at hl 3 rfl) ?_
            refine lv_iload hx hb dX0_findPlaces_70 (lv_at hl 0 rfl) ?_
            refine lv_iload hx hb dX0_findPlaces_72 (lv_at hl 1 rfl) ?_
            refine x_callv (f := (x_noteFault n t_203 r_205 ((a + i) &&& 65535))) (va_runV (C := RX0) (As := [.int r_205, .int ((a + i) &&& 65535)]) (rest := []) ⟨hx, hb, hml, hown, hts⟩ (c_x_noteFault l dC dI h cB cI n _ t_203 r_205 ((a + i) &&& 65535) ) (cwV 2 hts gX0_X0_noteFault rfl rfl rfl (by decide +kernel) ⟨Nat.le_of_ble_eq_true rfl, Nat.le_of_ble_eq_true rfl⟩) (x_preM hK hP hD) rfl rfl hl.1 rfl (lv_room (Nat.le_of_ble_eq_true rfl)) dX0_findPlaces_74 ⟨Nat.zero_le _, Nat.zero_le _⟩) hP hD hS hA (fun t_207 H locs e_208 hP hD hS => ?_)
            refine lv_iload hx hb dX0_findPlaces_77 (lv_at hl 0 rfl) ?_
            exact W.iret (v := r_205) hx hb hr (fun t ht hW => ⟨⟨r_205, t_207, rfl, hm.trans ((if_neg c_201).trans ((if_pos c_202).trans ((kb_eq e_204).trans ((if_neg c_206).trans ((kv_eq e_208).trans rfl))))), by rw [ht]; exact hP, va_K.moved hW.alike hK, hD⟩, hS.F ht⟩) hS.2.2 dX0_findPlaces_79
        · refine lv_iload hx hb dX0_findPlaces_23 (lv_at hl 0 rfl) ?_
          refine vp_callSi (W.runS (As := [.int ((a + i) &&& 65535)]) (rest := []) ⟨hx, hb, hml, hown, hts⟩ (c_x_placeInPage l ((a + i) &&& 65535) ) (va_cwS 1 hts gX0_X0_placeInPage rfl rfl rfl (by decide +kernel) ⟨Nat.le_of_ble_eq_true rfl, Nat.le_of_ble_eq_true rfl⟩) (fs_pre) rfl rfl hl.1 rfl (lv_room (Nat.le_of_ble_eq_true rfl)) dX0_findPlaces_25 ⟨Nat.zero_le _, Nat.zero_le _⟩) (fun r er => ?_)
          subst er
          refine lv_if_eq (tgt := 52) hx hb dX0_findPlaces_28 (by decide) (fun c_209 => ?_) (fun c_209 => ?_)
          · refine lv_aload_n hx hb dX0_findPlaces_52 rfl (lv_at hl 2 rfl) ?_
            refine lv_iload hx hb dX0_findPlaces_53 (lv_at hl 0 rfl) ?_
            refine lv_iload_n hx hb dX0_findPlaces_55 rfl (lv_at hl 5 rfl) ?_
            refine lv_iload hx hb dX0_findPlaces_56 (lv_at hl 6 rfl) ?_
            refine lv_iconst (v := 1) hx hb dX0_findPlaces_58 (by decide) ?_
            refine x_calli (f := (x_translate n τ ((a + i) &&& 65535) md b 1)) (va_runV (C := RX0) (As := [.int ((a + i) &&& 65535), .int md, .int b, .int 1]) (rest := []) ⟨hx, hb, hml, hown, hts⟩ (c_x_translate l dC dI h cB cI n tw tr _ τ ((a + i) &&& 65535) md b 1 hn hI (x_mask16 _)) (cwV 4 hts gX0_X0_translate rfl rfl rfl (by decide +kernel) ⟨Nat.le_of_ble_eq_true rfl, Nat.le_of_ble_eq_true rfl⟩) (x_preMt hK hP hD hST hS hA) rfl rfl hl.1 rfl (lv_room (Nat.le_of_ble_eq_true rfl)) dX0_findPlaces_59 ⟨Nat.zero_le _, Nat.zero_le _⟩) hP hD hS hA (fun r_212 t_210 H locs e_211 hP hD hS => ?_)
            have hI := x_tr_inv hn hI (x_mask16 _) e_211
            refine lv_istore (lv' := [(7, .int r_212), (6, .int ((a + i) &&& 65535)), (5, .int i), (0, .ref (h 0)), (1, .int a), (2, .int ct), (3, .int md), (4, .int b)]) hx hb dX0_findPlaces_62 hl (by decide) rfl (fun ls hl => ?_)
            refine lv_iload hx hb dX0_findPlaces_64 (lv_at hl 0 rfl) ?_
            refine lv_if_ge (tgt := 80) hx hb dX0_findPlaces_66 (by decide) (fun c_213 => ?_) (fun c_213 => ?_)
            · refine lv_aload_n hx hb dX0_findPlaces_80 rfl (lv_at hl 3 rfl) ?_
              refine va_get (D := (dC, dI)) (ci := 0) (v := .ref (h 7)) (C := RX0) (T := TX0) (N := 9) hx hb hts inbX0 hown hK hP 0 rfl rfl 8 (by decide) (hts _ bX0_8) (fun _ h9 => h9) rfl dX0_findPlaces_81 ?_
              refine lv_iload hx hb dX0_findPlaces_84 (lv_at hl 2 rfl) ?_
              refine lv_iload hx hb dX0_findPlaces_86 (lv_at hl 0 rfl) ?_
              refine va_iast hx hb hK hP hD hS 7 1 rfl rfl (by rw [ej]; exact vp_in_nI hlt (by omega)) dX0_findPlaces_88 (fun H locs hP hD hS => ?_)
              have hP : va_P (dC, dI) vwCl (x_ws h cB cI n (x_sPl t_210 (upd (x_pl t_210) ((i).toNatClampNeg) r_212))) H := hP
              have hD : va_D A (x_ws h cB cI n (x_sPl t_210 (upd (x_pl t_210) ((i).toNatClampNeg) r_212))) := hD
              refine lv_iinc (v := (i + 1)) (lv' := [(5, .int (i + 1)), (7, .int r_212), (6, .int ((a + i) &&& 65535)), (0, .ref (h 0)), (1, .int a), (2, .int ct), (3, .int md), (4, .int b)]) hx hb dX0_findPlaces_89 hl (k := 2) rfl rfl (by decide) rfl (fun ls hl => ?_)
              refine lv_goto (tgt := 3) hx hb dX0_findPlaces_92 (by decide) ?_
              exact ih (j + 1) (i + 1) (x_sPl t_210 (upd (x_pl t_210) ((i).toNatClampNeg) r_212)) _ _ _ (by rw [ej]; exact nI_1 j) (by omega) (by omega) hI (hm.trans ((if_neg c_201).trans ((if_neg c_202).trans ((if_pos c_209).trans ((kb_eq e_211).trans ((if_pos c_213).trans rfl)))))) hP hD hS (lv_sub hl [0, 3, 4, 5, 6, 7] rfl)
            · refine lv_aload_n hx hb dX0_findPlaces_69 rfl (lv_at hl 3 rfl) ?_
              refine lv_iload hx hb dX0_findPlaces_70 (lv_at hl 0 rfl) ?_
              refine lv_iload hx hb dX0_findPlaces_72 (lv_at hl 1 rfl) ?_
              refine x_callv (f := (x_noteFault n t_210 r_212 ((a + i) &&& 65535))) (va_runV (C := RX0) (As := [.int r_212, .int ((a + i) &&& 65535)]) (rest := []) ⟨hx, hb, hml, hown, hts⟩ (c_x_noteFault l dC dI h cB cI n _ t_210 r_212 ((a + i) &&& 65535) ) (cwV 2 hts gX0_X0_noteFault rfl rfl rfl (by decide +kernel) ⟨Nat.le_of_ble_eq_true rfl, Nat.le_of_ble_eq_true rfl⟩) (x_preM hK hP hD) rfl rfl hl.1 rfl (lv_room (Nat.le_of_ble_eq_true rfl)) dX0_findPlaces_74 ⟨Nat.zero_le _, Nat.zero_le _⟩) hP hD hS hA (fun t_214 H locs e_215 hP hD hS => ?_)
              refine lv_iload hx hb dX0_findPlaces_77 (lv_at hl 0 rfl) ?_
              exact W.iret (v := r_212) hx hb hr (fun t ht hW => ⟨⟨r_212, t_214, rfl, hm.trans ((if_neg c_201).trans ((if_neg c_202).trans ((if_pos c_209).trans ((kb_eq e_211).trans ((if_neg c_213).trans ((kv_eq e_215).trans rfl)))))), by rw [ht]; exact hP, va_K.moved hW.alike hK, hD⟩, hS.F ht⟩) hS.2.2 dX0_findPlaces_79
          · refine lv_aload_n hx hb dX0_findPlaces_31 rfl (lv_at hl 2 rfl) ?_
            refine va_get (D := (dC, dI)) (ci := 0) (v := .ref (h 7)) (C := RX0) (T := TX0) (N := 9) hx hb hts inbX0 hown hK hP 0 rfl rfl 8 (by decide) (hts _ bX0_8) (fun _ h9 => h9) rfl dX0_findPlaces_32 ?_
            refine lv_iload hx hb dX0_findPlaces_35 (lv_at hl 1 rfl) ?_
            refine lv_aload_n hx hb dX0_findPlaces_37 rfl (lv_at hl 2 rfl) ?_
            refine va_get (D := (dC, dI)) (ci := 0) (v := .ref (h 7)) (C := RX0) (T := TX0) (N := 9) hx hb hts inbX0 hown hK hP 0 rfl rfl 8 (by decide) (hts _ bX0_8) (fun _ h9 => h9) rfl dX0_findPlaces_38 ?_
            refine lv_iload hx hb dX0_findPlaces_41 (lv_at hl 1 rfl) ?_
            refine lv_iconst (v := 1) hx hb dX0_findPlaces_43 (by decide) ?_
            refine lv_isub hx hb dX0_findPlaces_44 ?_
            refine va_iald hx hb hK hP 7 1 rfl rfl (x_im1 ej hlt c_202) dX0_findPlaces_45 ?_
            refine lv_iconst (v := 1) hx hb dX0_findPlaces_46 (by decide) ?_
            refine lv_iadd hx hb dX0_findPlaces_47 ?_
            refine va_iast hx hb hK hP hD hS 7 1 rfl rfl (by rw [ej]; exact vp_in_nI hlt (by omega)) dX0_findPlaces_48 (fun H locs hP hD hS => ?_)
            have hP : va_P (dC, dI) vwCl (x_ws h cB cI n (x_sPl τ (upd (x_pl τ) ((i).toNatClampNeg) ((x_pl τ ((i - 1)).toNatClampNeg) + 1)))) H := hP
            have hD : va_D A (x_ws h cB cI n (x_sPl τ (upd (x_pl τ) ((i).toNatClampNeg) ((x_pl τ ((i - 1)).toNatClampNeg) + 1)))) := hD
            refine lv_goto (tgt := 89) hx hb dX0_findPlaces_49 (by decide) ?_
            refine lv_iinc (v := (i + 1)) (lv' := [(5, .int (i + 1)), (6, .int ((a + i) &&& 65535)), (0, .ref (h 0)), (1, .int a), (2, .int ct), (3, .int md), (4, .int b)]) hx hb dX0_findPlaces_89 hl (k := 1) rfl rfl (by decide) rfl (fun ls hl => ?_)
            refine lv_goto (tgt := 3) hx hb dX0_findPlaces_92 (by decide) ?_
            exact ih (j + 1) (i + 1) (x_sPl τ (upd (x_pl τ) ((i).toNatClampNeg) ((x_pl τ ((i - 1)).toNatClampNeg) + 1))) _ _ _ (by rw [ej]; exact nI_1 j) (by omega) (by omega) hI (hm.trans ((if_neg c_201).trans ((if_neg c_202).trans ((if_neg c_209).trans rfl)))) hP hD hS (lv_sub hl [0, 2, 3, 4, 5, 6] rfl)
  refine lv_iconst (v := 0) hx hb dX0_findPlaces_0 (by decide) ?_
  refine lv_istore (lv' := [(5, .int 0), (0, .ref (h 0)), (1, .int a), (2, .int ct), (3, .int md), (4, .int b)]) hx hb dX0_findPlaces_1 hl (by decide) rfl (fun ls hl => ?_)
  exact key_l1 5 0 0 σ _ _ _ nI_0.symm (by omega) (by omega) hI (rfl) hP hD hS (lv_sub hl [0, 1, 2, 3, 4, 5] rfl)
