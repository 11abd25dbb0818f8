theorem x_pages {v : Int32} (h1 : ¬ v < 4) (h2 : ¬ (128 : Int32) < v) : ∃ K : Nat, v = nI K ∧ 4 ≤ K ∧ K ≤ 128 := by
  have h0 : ¬ v < 0 := fun h => h1 (Int32.lt_trans h (by decide))
  obtain ⟨K, hK, rfl⟩ := nI_of h0
  refine ⟨K, rfl, ?_, ?_⟩
  · rcases Nat.lt_or_ge K 4 with q | q
    · exact absurd (nI_lt q (by decide)) h1
    · exact q
  · rcases Nat.lt_or_ge 128 K with q | q
    · exact absurd (nI_lt q hK) h2
    · exact q
def x_n (v : Int32) : Nat := (if v < 4 then (32 : Int32) else if (128 : Int32) < v then 32 else v).toNatClampNeg * 16
def x_kp0 : Nat → Int32 := j_fill 16 (fun _ => 0) (-1)
def x_init : XS := (fun _ => 0, fun _ => 0, fun _ => 0, x_kp0, fun _ => 0, fun _ => 0, fun _ => 0, 0, -1)
theorem x_n_of {v : Int32} {K : Nat} (h : (if v < 4 then (32 : Int32) else if (128 : Int32) < v then 32 else v) = nI K) (hK : K ≤ 128) : x_n v = K * 16 := by unfold x_n; rw [h, nI_clamp (by omega)]
abbrev x_w0 (h0 : Nat) : va_W := [(h0, .inr (0, [.null, .null, .null, .int 0, .int 0, .null, .null, .null, .null]))]
abbrev x_atI (dC : Nat → ClassId) (dI : Nat → Nat → Nat) (n : Nat) (A : Nat → Prop) (u : (Nat → Nat) × ClassId × ClassId) (t : State) : Prop := va_P (dC, dI) vwCl (x_ws u.1 u.2.1 u.2.2 n x_init) t.heap ∧ va_K (dC, dI) vwCl (x_tys u.2.1 u.2.2) t ∧ va_D A (x_ws u.1 u.2.1 u.2.2 n x_init)
set_option maxHeartbeats 8000000 in
set_option maxRecDepth 100000 in
theorem c_x_init (l : Launch) (dC : Nat → ClassId) (dI : Nat → Nat → Nat) (h0 : Nat) (sz : Nat) (p0 : Int32) : Met l yX0_init wsX0_init ({ frames := 1, cells := 7, slots := 2106, locals := 23 }) (va_Pc [.ref h0, .int p0] (fun U => U.heap.size = sz ∧ va_P (dC, dI) vwCl (x_w0 h0) U.heap ∧ va_K (dC, dI) vwCl [] U ∧ va_D (fun _ => True) (x_w0 h0))) (va_Qv (fun u : (Nat → Nat) × ClassId × ClassId => u.1 0 = h0) (x_atI dC dI (x_n p0) (va_A (x_w0 h0) sz)) (va_A (x_w0 h0) sz)) 7 2106 (va_A (x_w0 h0) sz) := by
  refine Met.ofW (cc := cX0_init) (maxL := 3) (ret := none) (by decide) rfl ?_
  intro p e s m args below meth c s₁ B hml hv
  obtain ⟨rfl, hsz, hP, hK, hD0⟩ := hv
  have hx := B.exec
  have hb := B.bytes
  have hr := B.returns
  have hts : ∀ w ∈ bX0, w.before _ s = true := fun w h => atoms_spec (ws := wsX0_init) B.pre w (List.mem_cons_of_mem _ h)
  have hown : s.vm.findClass RX0 = some m.cls := findClass_of_methodNamed B.named
  have hlocks := B.notSynchronized
  have hin : meth.name = "<init>" := (name_of_methodNamed B.named B.method).1
  subst hsz
  have hD := hD0.self (sz := s.heap.size)
  generalize hAe : va_A (x_w0 h0) s.heap.size = A at hD ⊢
  have hA : ∀ q : Nat, s.heap.size ≤ q → A q := fun q h => by rw [← hAe]; exact Or.inr h
  have hS : va_S A s.heap s.heap [] := va_S.rf
  have hP : va_P (dC, dI) vwCl (x_w0 h0) s.heap := hP
  have tail : ∀ (K : Nat) (v : Int32) (ls : Array Slot), v = nI K → 4 ≤ K → K ≤ 128 → x_n p0 = K * 16 → lv_has ls 3 [(2, .int v), (0, .ref h0), (1, .int p0)] → W p l e (headSpec wsX0_init ({ frames := 1, cells := 7, slots := 2106, locals := 23 })).room s m ([.ref h0, .int p0] : List Value).toArray below meth c s.heap [] 0 0 (MQ below (va_Qv (fun u : (Nat → Nat) × ClassId × ClassId => u.1 0 = h0) (x_atI dC dI (x_n p0) A) A) ([.ref h0, .int p0] : List Value).toArray s 7 2106 A) (F0 m 23 ls []) := by
    intro K v ls ev hK4 hK8 en hl
    refine lv_aload_n hx hb dX0_init_23 rfl (lv_at hl 1 rfl) ?_
    refine lv_iload_n hx hb dX0_init_24 rfl (lv_at hl 0 rfl) ?_
    refine lv_bipush (v := 16) hx hb dX0_init_25 (by decide) ?_
    refine lv_imul hx hb dX0_init_27 ?_
    have ek : v * 16 = nI (K * 16) := by rw [ev, show (16 : Int32) = nI 16 from rfl, pk_mul]
    rw [ek]
    have hn0 : ¬ nI (K * 16) < 0 := nI_pos (by omega)
    have hnN : (nI (K * 16)).toNatClampNeg = K * 16 := nI_clamp (by omega)
    have hc_1 : 0 + 1 ≤ 7 := by decide
    have hs_1 : 0 + K * 16 ≤ 2106 := by omega
    refine va_newa (atype := .byte) (ty := .byte) (a0 := ((K * 16), .inl (fun _ => 0))) hx hb (hts _ bX0_18) rfl hK hP hD hS hA (fun cA => rfl) hn0 hnN (by show K * 16 * 1 ≤ 536870912; omega) hc_1 hs_1 dX0_init_28 (fun q1 a1 H hK hP hD hS => ?_)
    have hK : va_K (dC, dI) vwCl [(a1, .byte)] s := hK
    have hP : va_P (dC, dI) vwCl [(h0, .inr (0, [.null, .null, .null, .int 0, .int 0, .null, .null, .null, .null])), (q1, .inl (a1, (K * 16), .inl (fun _ => 0)))] H := hP
    have hD : va_D A [(h0, .inr (0, [.null, .null, .null, .int 0, .int 0, .null, .null, .null, .null])), (q1, .inl (a1, (K * 16), .inl (fun _ => 0)))] := hD
    refine W.widen (k := 1) (n := 2048) (by omega) (by omega) ?_
    refine va_putF (D := (dC, dI)) (ci := 0) (v := .ref q1) (ty := .array .byte) (C := RX0) (T := TX0) (N := 9) hx hb hts inbX0 tyX0 tyX0_ok nmX0 hown hK hP hD hS 0 rfl rfl 0 (by decide) (hts _ bX0_0) (fun _ h9 => h9) rfl hin rfl (by decide +kernel) rfl rfl (Nat.le_of_ble_eq_true rfl) dX0_init_30 (fun H locs hP hD hS => ?_)
    have hP : va_P (dC, dI) vwCl [(h0, .inr (0, [.ref q1, .null, .null, .int 0, .int 0, .null, .null, .null, .null])), (q1, .inl (a1, (K * 16), .inl (fun _ => 0)))] H := hP
    have hD : va_D A [(h0, .inr (0, [.ref q1, .null, .null, .int 0, .int 0, .null, .null, .null, .null])), (q1, .inl (a1, (K * 16), .inl (fun _ => 0)))] := hD
    refine lv_aload_n hx hb dX0_init_33 rfl (lv_at hl 1 rfl) ?_
    refine lv_iconst (v := 3) hx hb dX0_init_34 (by decide) ?_
    have hc_2 : 1 + 1 ≤ 7 := by decide
    have hs_2 : 2048 + 3 ≤ 2106 := by decide
    refine va_newa (atype := .int) (ty := .int) (a0 := (3, .inl (fun _ => 0))) hx hb (hts _ bX0_19) rfl hK hP hD hS hA (fun cA => rfl) (by decide) rfl (by decide) hc_2 hs_2 dX0_init_35 (fun q2 a2 H hK hP hD hS => ?_)
    have hK : va_K (dC, dI) vwCl [(a1, .byte), (a2, .int)] s := hK
    have hP : va_P (dC, dI) vwCl [(h0, .inr (0, [.ref q1, .null, .null, .int 0, .int 0, .null, .null, .null, .null])), (q1, .inl (a1, (K * 16), .inl (fun _ => 0))), (q2, .inl (a2, 3, .inl (fun _ => 0)))] H := hP
    have hD : va_D A [(h0, .inr (0, [.ref q1, .null, .null, .int 0, .int 0, .null, .null, .null, .null])), (q1, .inl (a1, (K * 16), .inl (fun _ => 0))), (q2, .inl (a2, 3, .inl (fun _ => 0)))] := hD
    refine W.widen (k := 2) (n := 2051) (by omega) (by omega) ?_
    refine va_putF (D := (dC, dI)) (ci := 0) (v := .ref q2) (ty := .array .int) (C := RX0) (T := TX0) (N := 9) hx hb hts inbX0 tyX0 tyX0_ok nmX0 hown hK hP hD hS 0 rfl rfl 1 (by decide) (hts _ bX0_1) (fun _ h9 => h9) rfl hin rfl (by decide +kernel) rfl rfl (Nat.le_of_ble_eq_true rfl) dX0_init_37 (fun H locs hP hD hS => ?_)
    have hP : va_P (dC, dI) vwCl [(h0, .inr (0, [.ref q1, .ref q2, .null, .int 0, .int 0, .null, .null, .null, .null])), (q1, .inl (a1, (K * 16), .inl (fun _ => 0))), (q2, .inl (a2, 3, .inl (fun _ => 0)))] H := hP
    have hD : va_D A [(h0, .inr (0, [.ref q1, .ref q2, .null, .int 0, .int 0, .null, .null, .null, .null])), (q1, .inl (a1, (K * 16), .inl (fun _ => 0))), (q2, .inl (a2, 3, .inl (fun _ => 0)))] := hD
    refine lv_aload_n hx hb dX0_init_40 rfl (lv_at hl 1 rfl) ?_
    refine lv_iconst (v := 3) hx hb dX0_init_41 (by decide) ?_
    have hc_3 : 2 + 1 ≤ 7 := by decide
    have hs_3 : 2051 + 3 ≤ 2106 := by decide
    refine va_newa (atype := .int) (ty := .int) (a0 := (3, .inl (fun _ => 0))) hx hb (hts _ bX0_19) rfl hK hP hD hS hA (fun cA => rfl) (by decide) rfl (by decide) hc_3 hs_3 dX0_init_42 (fun q3 a3 H hK hP hD hS => ?_)
    have hK : va_K (dC, dI) vwCl [(a1, .byte), (a2, .int), (a3, .int)] s := hK
    obtain rfl : a2 = a3 := Option.some.inj ((hK.2 1 _ rfl).2.symm.trans (hK.2 2 _ rfl).2)
    have hK : va_K (dC, dI) vwCl [(a1, .byte), (a2, .int)] s := hK.sub [0, 1] rfl
    have hP : va_P (dC, dI) vwCl [(h0, .inr (0, [.ref q1, .ref q2, .null, .int 0, .int 0, .null, .null, .null, .null])), (q1, .inl (a1, (K * 16), .inl (fun _ => 0))), (q2, .inl (a2, 3, .inl (fun _ => 0))), (q3, .inl (a2, 3, .inl (fun _ => 0)))] H := hP
    have hD : va_D A [(h0, .inr (0, [.ref q1, .ref q2, .null, .int 0, .int 0, .null, .null, .null, .null])), (q1, .inl (a1, (K * 16), .inl (fun _ => 0))), (q2, .inl (a2, 3, .inl (fun _ => 0))), (q3, .inl (a2, 3, .inl (fun _ => 0)))] := hD
    refine W.widen (k := 3) (n := 2054) (by omega) (by omega) ?_
    refine va_putF (D := (dC, dI)) (ci := 0) (v := .ref q3) (ty := .array .int) (C := RX0) (T := TX0) (N := 9) hx hb hts inbX0 tyX0 tyX0_ok nmX0 hown hK hP hD hS 0 rfl rfl 2 (by decide) (hts _ bX0_2) (fun _ h9 => h9) rfl hin rfl (by decide +kernel) rfl rfl (Nat.le_of_ble_eq_true rfl) dX0_init_44 (fun H locs hP hD hS => ?_)
    have hP : va_P (dC, dI) vwCl [(h0, .inr (0, [.ref q1, .ref q2, .ref q3, .int 0, .int 0, .null, .null, .null, .null])), (q1, .inl (a1, (K * 16), .inl (fun _ => 0))), (q2, .inl (a2, 3, .inl (fun _ => 0))), (q3, .inl (a2, 3, .inl (fun _ => 0)))] H := hP
    have hD : va_D A [(h0, .inr (0, [.ref q1, .ref q2, .ref q3, .int 0, .int 0, .null, .null, .null, .null])), (q1, .inl (a1, (K * 16), .inl (fun _ => 0))), (q2, .inl (a2, 3, .inl (fun _ => 0))), (q3, .inl (a2, 3, .inl (fun _ => 0)))] := hD
    refine lv_aload_n hx hb dX0_init_47 rfl (lv_at hl 1 rfl) ?_
    refine lv_iconst (v := 0) hx hb dX0_init_48 (by decide) ?_
    refine va_put (D := (dC, dI)) (ci := 0) (v := .int 0) (ty := .boolean) (C := RX0) (T := TX0) (N := 9) hx hb hts inbX0 tyX0 tyX0_ok nmX0 hown hK hP hD hS 0 rfl rfl 3 (by decide) (hts _ bX0_3) (fun _ h9 => h9) rfl (by decide +kernel) rfl rfl (Nat.le_of_ble_eq_true rfl) dX0_init_49 (fun H locs hP hD hS => ?_)
    have hP : va_P (dC, dI) vwCl [(h0, .inr (0, [.ref q1, .ref q2, .ref q3, .int 0, .int 0, .null, .null, .null, .null])), (q1, .inl (a1, (K * 16), .inl (fun _ => 0))), (q2, .inl (a2, 3, .inl (fun _ => 0))), (q3, .inl (a2, 3, .inl (fun _ => 0)))] H := hP
    have hD : va_D A [(h0, .inr (0, [.ref q1, .ref q2, .ref q3, .int 0, .int 0, .null, .null, .null, .null])), (q1, .inl (a1, (K * 16), .inl (fun _ => 0))), (q2, .inl (a2, 3, .inl (fun _ => 0))), (q3, .inl (a2, 3, .inl (fun _ => 0)))] := hD
    refine lv_aload_n hx hb dX0_init_52 rfl (lv_at hl 1 rfl) ?_
    refine lv_iconst (v := (-1)) hx hb dX0_init_53 (by decide) ?_
    refine va_put (D := (dC, dI)) (ci := 0) (v := .int (-1)) (ty := .int) (C := RX0) (T := TX0) (N := 9) hx hb hts inbX0 tyX0 tyX0_ok nmX0 hown hK hP hD hS 0 rfl rfl 4 (by decide) (hts _ bX0_4) (fun _ h9 => h9) rfl (by decide +kernel) rfl rfl (Nat.le_of_ble_eq_true rfl) dX0_init_54 (fun H locs hP hD hS => ?_)
    have hP : va_P (dC, dI) vwCl [(h0, .inr (0, [.ref q1, .ref q2, .ref q3, .int 0, .int (-1), .null, .null, .null, .null])), (q1, .inl (a1, (K * 16), .inl (fun _ => 0))), (q2, .inl (a2, 3, .inl (fun _ => 0))), (q3, .inl (a2, 3, .inl (fun _ => 0)))] H := hP
    have hD : va_D A [(h0, .inr (0, [.ref q1, .ref q2, .ref q3, .int 0, .int (-1), .null, .null, .null, .null])), (q1, .inl (a1, (K * 16), .inl (fun _ => 0))), (q2, .inl (a2, 3, .inl (fun _ => 0))), (q3, .inl (a2, 3, .inl (fun _ => 0)))] := hD
    refine lv_aload_n hx hb dX0_init_57 rfl (lv_at hl 1 rfl) ?_
    refine lv_bipush (v := 16) hx hb dX0_init_58 (by decide) ?_
    have hc_4 : 3 + 1 ≤ 7 := by decide
    have hs_4 : 2054 + 16 ≤ 2106 := by decide
    refine va_newa (atype := .int) (ty := .int) (a0 := (16, .inl (fun _ => 0))) hx hb (hts _ bX0_19) rfl hK hP hD hS hA (fun cA => rfl) (by decide) rfl (by decide) hc_4 hs_4 dX0_init_60 (fun q4 a4 H hK hP hD hS => ?_)
    have hK : va_K (dC, dI) vwCl [(a1, .byte), (a2, .int), (a4, .int)] s := hK
    obtain rfl : a2 = a4 := Option.some.inj ((hK.2 1 _ rfl).2.symm.trans (hK.2 2 _ rfl).2)
    have hK : va_K (dC, dI) vwCl [(a1, .byte), (a2, .int)] s := hK.sub [0, 1] rfl
    have hP : va_P (dC, dI) vwCl [(h0, .inr (0, [.ref q1, .ref q2, .ref q3, .int 0, .int (-1), .null, .null, .null, .null])), (q1, .inl (a1, (K * 16), .inl (fun _ => 0))), (q2, .inl (a2, 3, .inl (fun _ => 0))), (q3, .inl (a2, 3, .inl (fun _ => 0))), (q4, .inl (a2, 16, .inl (fun _ => 0)))] H := hP
    have hD : va_D A [(h0, .inr (0, [.ref q1, .ref q2, .ref q3, .int 0, .int (-1), .null, .null, .null, .null])), (q1, .inl (a1, (K * 16), .inl (fun _ => 0))), (q2, .inl (a2, 3, .inl (fun _ => 0))), (q3, .inl (a2, 3, .inl (fun _ => 0))), (q4, .inl (a2, 16, .inl (fun _ => 0)))] := hD
    refine W.widen (k := 4) (n := 2070) (by omega) (by omega) ?_
    refine va_putF (D := (dC, dI)) (ci := 0) (v := .ref q4) (ty := .array .int) (C := RX0) (T := TX0) (N := 9) hx hb hts inbX0 tyX0 tyX0_ok nmX0 hown hK hP hD hS 0 rfl rfl 5 (by decide) (hts _ bX0_5) (fun _ h9 => h9) rfl hin rfl (by decide +kernel) rfl rfl (Nat.le_of_ble_eq_true rfl) dX0_init_62 (fun H locs hP hD hS => ?_)
    have hP : va_P (dC, dI) vwCl [(h0, .inr (0, [.ref q1, .ref q2, .ref q3, .int 0, .int (-1), .ref q4, .null, .null, .null])), (q1, .inl (a1, (K * 16), .inl (fun _ => 0))), (q2, .inl (a2, 3, .inl (fun _ => 0))), (q3, .inl (a2, 3, .inl (fun _ => 0))), (q4, .inl (a2, 16, .inl (fun _ => 0)))] H := hP
    have hD : va_D A [(h0, .inr (0, [.ref q1, .ref q2, .ref q3, .int 0, .int (-1), .ref q4, .null, .null, .null])), (q1, .inl (a1, (K * 16), .inl (fun _ => 0))), (q2, .inl (a2, 3, .inl (fun _ => 0))), (q3, .inl (a2, 3, .inl (fun _ => 0))), (q4, .inl (a2, 16, .inl (fun _ => 0)))] := hD
    refine lv_aload_n hx hb dX0_init_65 rfl (lv_at hl 1 rfl) ?_
    refine va_get (D := (dC, dI)) (ci := 0) (v := .ref q4) (C := RX0) (T := TX0) (N := 9) hx hb hts inbX0 hown hK hP 0 rfl rfl 5 (by decide) (hts _ bX0_5) (fun _ h9 => h9) rfl dX0_init_66 ?_
    refine lv_iconst (v := (-1)) hx hb dX0_init_69 (by decide) ?_
    have hPc : va_P (dC, dI) vwCl (j_ws (fun _ => q4) a2 16 (fun _ => 0)) H := hP.sub [4] rfl
    have hDc : va_D A (j_ws (fun _ => q4) a2 16 (fun _ => 0)) := hD.sub [4] (by decide) rfl
    have hKc : va_K (dC, dI) vwCl (j_tys a2) s := hK.sub [1] rfl
    have hFc := va_free (wc := j_ws (fun _ => q4) a2 16 (fun _ => 0)) hD hS hA [4] rfl
    refine va_callv (va_runS (As := [.ref q4, .int (-1)]) (rest := []) ⟨hx, hb, hml, hown, hts⟩ (c_j_fill l dC dI (fun _ => q4) a2 16 H.size (fun _ => 0) (-1) (by decide)) (va_cwS 2 hts gX0_J_fill rfl rfl rfl (by decide +kernel) ⟨Nat.le_of_ble_eq_true rfl, Nat.le_of_ble_eq_true rfl⟩) ⟨fun a U g mk q => ⟨q.1, q.2.1, q.2.2.1, va_K.moved (u := U) (U := U.calling g mk a) (Vm.Alike.refl U.vm) q.2.2.2.1, q.2.2.2.2⟩, fun U hU hW => ⟨rfl, by rw [hU], by rw [hU]; exact hPc, va_K.moved hW.alike hKc, hDc.weaken (fun _ _ _ _ => trivial)⟩⟩ rfl rfl hl.1 rfl (lv_room (Nat.le_of_ble_eq_true rfl)) dX0_init_70 ⟨Nat.le_of_ble_eq_true rfl, Nat.le_of_ble_eq_true rfl⟩) hS (fun q _ z => hFc q z) hFc (fun u t H1 locs ht hvm hw hB hz1 hk1 hS => ?_)
    obtain ⟨hP1, hK1, hD1⟩ := hB
    rw [ht] at hP1
    subst hw
    obtain ⟨hP, hD⟩ := va_join (wr := [(h0, .inr (0, [.ref q1, .ref q2, .ref q3, .int 0, .int (-1), .ref q4, .null, .null, .null])), (q1, .inl (a1, (K * 16), .inl (fun _ => 0))), (q2, .inl (a2, 3, .inl (fun _ => 0))), (q3, .inl (a2, 3, .inl (fun _ => 0)))]) (w1 := j_ws (fun _ => q4) a2 16 (j_fill 16 (fun _ => 0) (-1))) hP hD [4] [0, 1, 2, 3] rfl rfl (by decide) (by decide) hk1 hFc hP1 hD1
    generalize H1 = H at hP hS ⊢
    have hP : va_P (dC, dI) vwCl [(h0, .inr (0, [.ref q1, .ref q2, .ref q3, .int 0, .int (-1), .ref q4, .null, .null, .null])), (q1, .inl (a1, (K * 16), .inl (fun _ => 0))), (q2, .inl (a2, 3, .inl (fun _ => 0))), (q3, .inl (a2, 3, .inl (fun _ => 0))), (q4, .inl (a2, 16, .inl x_kp0))] H := hP
    have hD : va_D A [(h0, .inr (0, [.ref q1, .ref q2, .ref q3, .int 0, .int (-1), .ref q4, .null, .null, .null])), (q1, .inl (a1, (K * 16), .inl (fun _ => 0))), (q2, .inl (a2, 3, .inl (fun _ => 0))), (q3, .inl (a2, 3, .inl (fun _ => 0))), (q4, .inl (a2, 16, .inl x_kp0))] := hD
    refine lv_aload_n hx hb dX0_init_73 rfl (lv_at hl 1 rfl) ?_
    refine lv_bipush (v := 16) hx hb dX0_init_74 (by decide) ?_
    have hc_5 : 4 + 1 ≤ 7 := by decide
    have hs_5 : 2070 + 16 ≤ 2106 := by decide
    refine va_newa (atype := .int) (ty := .int) (a0 := (16, .inl (fun _ => 0))) hx hb (hts _ bX0_19) rfl hK hP hD hS hA (fun cA => rfl) (by decide) rfl (by decide) hc_5 hs_5 dX0_init_76 (fun q5 a5 H hK hP hD hS => ?_)
    have hK : va_K (dC, dI) vwCl [(a1, .byte), (a2, .int), (a5, .int)] s := hK
    obtain rfl : a2 = a5 := Option.some.inj ((hK.2 1 _ rfl).2.symm.trans (hK.2 2 _ rfl).2)
    have hK : va_K (dC, dI) vwCl [(a1, .byte), (a2, .int)] s := hK.sub [0, 1] rfl
    have hP : va_P (dC, dI) vwCl [(h0, .inr (0, [.ref q1, .ref q2, .ref q3, .int 0, .int (-1), .ref q4, .null, .null, .null])), (q1, .inl (a1, (K * 16), .inl (fun _ => 0))), (q2, .inl (a2, 3, .inl (fun _ => 0))), (q3, .inl (a2, 3, .inl (fun _ => 0))), (q4, .inl (a2, 16, .inl x_kp0)), (q5, .inl (a2, 16, .inl (fun _ => 0)))] H := hP
    have hD : va_D A [(h0, .inr (0, [.ref q1, .ref q2, .ref q3, .int 0, .int (-1), .ref q4, .null, .null, .null])), (q1, .inl (a1, (K * 16), .inl (fun _ => 0))), (q2, .inl (a2, 3, .inl (fun _ => 0))), (q3, .inl (a2, 3, .inl (fun _ => 0))), (q4, .inl (a2, 16, .inl x_kp0)), (q5, .inl (a2, 16, .inl (fun _ => 0)))] := hD
    refine W.widen (k := 5) (n := 2086) (by omega) (by omega) ?_
    refine va_putF (D := (dC, dI)) (ci := 0) (v := .ref q5) (ty := .array .int) (C := RX0) (T := TX0) (N := 9) hx hb hts inbX0 tyX0 tyX0_ok nmX0 hown hK hP hD hS 0 rfl rfl 6 (by decide) (hts _ bX0_6) (fun _ h9 => h9) rfl hin rfl (by decide +kernel) rfl rfl (Nat.le_of_ble_eq_true rfl) dX0_init_78 (fun H locs hP hD hS => ?_)
    have hP : va_P (dC, dI) vwCl [(h0, .inr (0, [.ref q1, .ref q2, .ref q3, .int 0, .int (-1), .ref q4, .ref q5, .null, .null])), (q1, .inl (a1, (K * 16), .inl (fun _ => 0))), (q2, .inl (a2, 3, .inl (fun _ => 0))), (q3, .inl (a2, 3, .inl (fun _ => 0))), (q4, .inl (a2, 16, .inl x_kp0)), (q5, .inl (a2, 16, .inl (fun _ => 0)))] H := hP
    have hD : va_D A [(h0, .inr (0, [.ref q1, .ref q2, .ref q3, .int 0, .int (-1), .ref q4, .ref q5, .null, .null])), (q1, .inl (a1, (K * 16), .inl (fun _ => 0))), (q2, .inl (a2, 3, .inl (fun _ => 0))), (q3, .inl (a2, 3, .inl (fun _ => 0))), (q4, .inl (a2, 16, .inl x_kp0)), (q5, .inl (a2, 16, .inl (fun _ => 0)))] := hD
    refine lv_aload_n hx hb dX0_init_81 rfl (lv_at hl 1 rfl) ?_
    refine lv_bipush (v := 16) hx hb dX0_init_82 (by decide) ?_
    have hc_6 : 5 + 1 ≤ 7 := by decide
    have hs_6 : 2086 + 16 ≤ 2106 := by decide
    refine va_newa (atype := .int) (ty := .int) (a0 := (16, .inl (fun _ => 0))) hx hb (hts _ bX0_19) rfl hK hP hD hS hA (fun cA => rfl) (by decide) rfl (by decide) hc_6 hs_6 dX0_init_84 (fun q6 a6 H hK hP hD hS => ?_)
    have hK : va_K (dC, dI) vwCl [(a1, .byte), (a2, .int), (a6, .int)] s := hK
    obtain rfl : a2 = a6 := Option.some.inj ((hK.2 1 _ rfl).2.symm.trans (hK.2 2 _ rfl).2)
    have hK : va_K (dC, dI) vwCl [(a1, .byte), (a2, .int)] s := hK.sub [0, 1] rfl
    have hP : va_P (dC, dI) vwCl [(h0, .inr (0, [.ref q1, .ref q2, .ref q3, .int 0, .int (-1), .ref q4, .ref q5, .null, .null])), (q1, .inl (a1, (K * 16), .inl (fun _ => 0))), (q2, .inl (a2, 3, .inl (fun _ => 0))), (q3, .inl (a2, 3, .inl (fun _ => 0))), (q4, .inl (a2, 16, .inl x_kp0)), (q5, .inl (a2, 16, .inl (fun _ => 0))), (q6, .inl (a2, 16, .inl (fun _ => 0)))] H := hP
    have hD : va_D A [(h0, .inr (0, [.ref q1, .ref q2, .ref q3, .int 0, .int (-1), .ref q4, .ref q5, .null, .null])), (q1, .inl (a1, (K * 16), .inl (fun _ => 0))), (q2, .inl (a2, 3, .inl (fun _ => 0))), (q3, .inl (a2, 3, .inl (fun _ => 0))), (q4, .inl (a2, 16, .inl x_kp0)), (q5, .inl (a2, 16, .inl (fun _ => 0))), (q6, .inl (a2, 16, .inl (fun _ => 0)))] := hD
    refine W.widen (k := 6) (n := 2102) (by omega) (by omega) ?_
    refine va_putF (D := (dC, dI)) (ci := 0) (v := .ref q6) (ty := .array .int) (C := RX0) (T := TX0) (N := 9) hx hb hts inbX0 tyX0 tyX0_ok nmX0 hown hK hP hD hS 0 rfl rfl 7 (by decide) (hts _ bX0_7) (fun _ h9 => h9) rfl hin rfl (by decide +kernel) rfl rfl (Nat.le_of_ble_eq_true rfl) dX0_init_86 (fun H locs hP hD hS => ?_)
    have hP : va_P (dC, dI) vwCl [(h0, .inr (0, [.ref q1, .ref q2, .ref q3, .int 0, .int (-1), .ref q4, .ref q5, .ref q6, .null])), (q1, .inl (a1, (K * 16), .inl (fun _ => 0))), (q2, .inl (a2, 3, .inl (fun _ => 0))), (q3, .inl (a2, 3, .inl (fun _ => 0))), (q4, .inl (a2, 16, .inl x_kp0)), (q5, .inl (a2, 16, .inl (fun _ => 0))), (q6, .inl (a2, 16, .inl (fun _ => 0)))] H := hP
    have hD : va_D A [(h0, .inr (0, [.ref q1, .ref q2, .ref q3, .int 0, .int (-1), .ref q4, .ref q5, .ref q6, .null])), (q1, .inl (a1, (K * 16), .inl (fun _ => 0))), (q2, .inl (a2, 3, .inl (fun _ => 0))), (q3, .inl (a2, 3, .inl (fun _ => 0))), (q4, .inl (a2, 16, .inl x_kp0)), (q5, .inl (a2, 16, .inl (fun _ => 0))), (q6, .inl (a2, 16, .inl (fun _ => 0)))] := hD
    refine lv_aload_n hx hb dX0_init_89 rfl (lv_at hl 1 rfl) ?_
    refine lv_iconst (v := 4) hx hb dX0_init_90 (by decide) ?_
    have hc_7 : 6 + 1 ≤ 7 := by decide
    have hs_7 : 2102 + 4 ≤ 2106 := by decide
    refine va_newa (atype := .int) (ty := .int) (a0 := (4, .inl (fun _ => 0))) hx hb (hts _ bX0_19) rfl hK hP hD hS hA (fun cA => rfl) (by decide) rfl (by decide) hc_7 hs_7 dX0_init_91 (fun q7 a7 H hK hP hD hS => ?_)
    have hK : va_K (dC, dI) vwCl [(a1, .byte), (a2, .int), (a7, .int)] s := hK
    obtain rfl : a2 = a7 := Option.some.inj ((hK.2 1 _ rfl).2.symm.trans (hK.2 2 _ rfl).2)
    have hK : va_K (dC, dI) vwCl [(a1, .byte), (a2, .int)] s := hK.sub [0, 1] rfl
    have hP : va_P (dC, dI) vwCl [(h0, .inr (0, [.ref q1, .ref q2, .ref q3, .int 0, .int (-1), .ref q4, .ref q5, .ref q6, .null])), (q1, .inl (a1, (K * 16), .inl (fun _ => 0))), (q2, .inl (a2, 3, .inl (fun _ => 0))), (q3, .inl (a2, 3, .inl (fun _ => 0))), (q4, .inl (a2, 16, .inl x_kp0)), (q5, .inl (a2, 16, .inl (fun _ => 0))), (q6, .inl (a2, 16, .inl (fun _ => 0))), (q7, .inl (a2, 4, .inl (fun _ => 0)))] H := hP
    have hD : va_D A [(h0, .inr (0, [.ref q1, .ref q2, .ref q3, .int 0, .int (-1), .ref q4, .ref q5, .ref q6, .null])), (q1, .inl (a1, (K * 16), .inl (fun _ => 0))), (q2, .inl (a2, 3, .inl (fun _ => 0))), (q3, .inl (a2, 3, .inl (fun _ => 0))), (q4, .inl (a2, 16, .inl x_kp0)), (q5, .inl (a2, 16, .inl (fun _ => 0))), (q6, .inl (a2, 16, .inl (fun _ => 0))), (q7, .inl (a2, 4, .inl (fun _ => 0)))] := hD
    refine W.widen (k := 7) (n := 2106) (by omega) (by omega) ?_
    refine va_putF (D := (dC, dI)) (ci := 0) (v := .ref q7) (ty := .array .int) (C := RX0) (T := TX0) (N := 9) hx hb hts inbX0 tyX0 tyX0_ok nmX0 hown hK hP hD hS 0 rfl rfl 8 (by decide) (hts _ bX0_8) (fun _ h9 => h9) rfl hin rfl (by decide +kernel) rfl rfl (Nat.le_of_ble_eq_true rfl) dX0_init_93 (fun H locs hP hD hS => ?_)
    have hP : va_P (dC, dI) vwCl [(h0, .inr (0, [.ref q1, .ref q2, .ref q3, .int 0, .int (-1), .ref q4, .ref q5, .ref q6, .ref q7])), (q1, .inl (a1, (K * 16), .inl (fun _ => 0))), (q2, .inl (a2, 3, .inl (fun _ => 0))), (q3, .inl (a2, 3, .inl (fun _ => 0))), (q4, .inl (a2, 16, .inl x_kp0)), (q5, .inl (a2, 16, .inl (fun _ => 0))), (q6, .inl (a2, 16, .inl (fun _ => 0))), (q7, .inl (a2, 4, .inl (fun _ => 0)))] H := hP
    have hD : va_D A [(h0, .inr (0, [.ref q1, .ref q2, .ref q3, .int 0, .int (-1), .ref q4, .ref q5, .ref q6, .ref q7])), (q1, .inl (a1, (K * 16), .inl (fun _ => 0))), (q2, .inl (a2, 3, .inl (fun _ => 0))), (q3, .inl (a2, 3, .inl (fun _ => 0))), (q4, .inl (a2, 16, .inl x_kp0)), (q5, .inl (a2, 16, .inl (fun _ => 0))), (q6, .inl (a2, 16, .inl (fun _ => 0))), (q7, .inl (a2, 4, .inl (fun _ => 0)))] := hD
    refine W.widen (k := 7) (n := 2106) (by omega) (by omega) ?_
    exact W.vret hx hb hr (fun t ht hW => ⟨⟨(fun k => ([h0, q1, q2, q3, q4, q5, q6, q7] : List Nat).getD k 0, a1, a2), rfl, rfl, by rw [ht, en]; exact hP, va_K.moved hW.alike hK, by rw [en]; exact hD⟩, hS.F ht⟩) hS.2.2 dX0_init_96
  have hl := lv_entry ([.ref h0, .int p0]) (n := 3) (Nat.le_of_ble_eq_true rfl)
  rw [lg_entry_eq]
  generalize (lg_sl ([.ref h0, .int p0]) ++ List.replicate (3 - (lg_sl ([.ref h0, .int p0])).length) Slot.unset).toArray = ls at hl ⊢
  have hl : lv_has ls 3 [(0, .ref h0), (1, .int p0)] := hl
  refine lv_aload_n hx hb dX0_init_0 rfl (lv_at hl 0 rfl) ?_
  refine W.objInit hx hb hown (hts _ bX0_20) (hts _ bX0_48) (hts _ bX0_112) rfl (by rw [hml]; exact hl.1) rfl dX0_init_1 (Nat.le_of_ble_eq_true rfl) (Nat.le_of_ble_eq_true rfl) ?_
  refine W.eq (g2 := F0 m 4 ls []) rfl ?_
  refine lv_iload_n hx hb dX0_init_4 rfl (lv_at hl 1 rfl) ?_
  refine lv_iconst (v := 4) hx hb dX0_init_5 (by decide) ?_
  refine lv_icmp_lt (tgt := 20) hx hb dX0_init_6 (by decide) (fun c_1 => ?_) (fun c_1 => ?_)
  · refine lv_bipush (v := 32) hx hb dX0_init_20 (by decide) ?_
    refine lv_istore_n (lv' := [(2, .int 32), (0, .ref h0), (1, .int p0)]) hx hb dX0_init_22 rfl hl (by decide) rfl (fun ls hl => ?_)
    exact tail 32 32 ls rfl (by omega) (by omega) (x_n_of (K := 32) (if_pos c_1) (by omega)) hl
  · refine lv_iload_n hx hb dX0_init_9 rfl (lv_at hl 1 rfl) ?_
    refine lv_sipush (v := 128) hx hb dX0_init_10 (by decide) ?_
    refine lv_icmp_gt (tgt := 20) hx hb dX0_init_13 (by decide) (fun c_2 => ?_) (fun c_2 => ?_)
    · refine lv_bipush (v := 32) hx hb dX0_init_20 (by decide) ?_
      refine lv_istore_n (lv' := [(2, .int 32), (0, .ref h0), (1, .int p0)]) hx hb dX0_init_22 rfl hl (by decide) rfl (fun ls hl => ?_)
      exact tail 32 32 ls rfl (by omega) (by omega) (x_n_of (K := 32) ((if_neg c_1).trans (if_pos c_2)) (by omega)) hl
    · refine lv_iload_n hx hb dX0_init_16 rfl (lv_at hl 1 rfl) ?_
      refine lv_goto (tgt := 22) hx hb dX0_init_17 (by decide) ?_
      refine lv_istore_n (lv' := [(2, .int p0), (0, .ref h0), (1, .int p0)]) hx hb dX0_init_22 rfl hl (by decide) rfl (fun ls hl => ?_)
      obtain ⟨K, ek, hk4, hk8⟩ := x_pages c_1 c_2
      exact tail K p0 ls ek hk4 hk8 (x_n_of ((if_neg c_1).trans ((if_neg c_2).trans ek)) hk8) hl
