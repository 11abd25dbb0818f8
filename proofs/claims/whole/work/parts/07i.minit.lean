def m_mu0 : MS := (fun _ => 0, fun _ => 0, fun _ => 0, fun _ => 0, fun _ => 0, fun _ => 0, fun _ => 0, fun _ => 0, fun _ => 0, 0, -1, 0, 0)
def m_ini_l1 (n : Nat) (p0 : Int32) : Nat → Int32 → MS → MS
  | 0, _, τ => τ
  | f + 1, i, τ =>
    if (16 : Int32) ≤ i then
      kv (m_code n τ 2 1 1) (fun t_102 =>
      kv (m_code n t_102 3 0 1) (fun t_104 =>
      kv (m_code n t_104 4 4 4) (fun t_106 =>
      kv (m_code n t_106 5 2 2) (fun t_108 =>
      kv (m_code n t_108 6 1 2) (fun t_110 =>
      kv (m_code n t_110 7 0 2) (fun t_112 =>
      kv (m_code n t_112 8 3 3) (fun t_114 =>
      kv (m_code n t_114 9 2 3) (fun t_116 =>
      kv (m_code n t_116 10 1 3) (fun t_118 =>
      kv (m_code n t_118 11 0 3) (fun t_120 =>
      kv (m_code n t_120 12 3 4) (fun t_122 =>
      kv (m_code n t_122 13 2 4) (fun t_124 =>
      kv (m_code n t_124 14 1 4) (fun t_126 =>
      kv (m_code n t_126 15 0 4) (fun t_128 =>
      t_128))))))))))))))
    else
      m_ini_l1 n p0 f (i + 1) (m_sPg τ (upd (m_pg τ) ((i).toNatClampNeg) (-1)))
def m_ini (n : Nat) (m_mu : MS) (p0 : Int32) : MS :=
  m_ini_l1 n p0 17 0 m_mu
abbrev m_w0 (h0 : Nat) : va_W := [(h0, .inr (1, [.null, .int 0, .null, .null, .int 0, .null, .null, .null, .null, .null, .null, .int 0, .int 0, .int 0]))]
abbrev m_atI (dC : Nat → ClassId) (dI : Nat → Nat → Nat) (n : Nat) (A : Nat → Prop) (u : (Nat → Nat) × ClassId) (t : State) : Prop := va_P (dC, dI) vwCl (m_ws u.1 u.2 n (m_ini n m_mu0 0)) t.heap ∧ va_K (dC, dI) vwCl (m_tys u.2) t ∧ va_D A (m_ws u.1 u.2 n (m_ini n m_mu0 0))
theorem m_ini_p {n : Nat} {μ : MS} (p q : Int32) : m_ini n μ p = m_ini n μ q := by
  have h : ∀ (f : Nat) (i : Int32) (τ : MS), m_ini_l1 n p f i τ = m_ini_l1 n q f i τ := by
    intro f
    induction f with
    | zero => intro i τ; rfl
    | succ f ih =>
      intro i τ
      show (if _ then _ else _) = (if _ then _ else _)
      rw [ih]
  exact h _ _ _
set_option maxHeartbeats 8000000 in
set_option maxRecDepth 100000 in
theorem c_m_init (l : Launch) (dC : Nat → ClassId) (dI : Nat → Nat → Nat) (h0 : Nat) (sz : Nat) (p0 : Int32) : Met l yX1_init wsX1_init ({ frames := 1, cells := 9, slots := 2138, locals := 23 }) (va_Pc [.ref h0, .int p0] (fun U => U.heap.size = sz ∧ va_P (dC, dI) vwCl (m_w0 h0) U.heap ∧ va_K (dC, dI) vwCl [] U ∧ va_D (fun _ => True) (m_w0 h0))) (va_Qv (fun u : (Nat → Nat) × ClassId => u.1 0 = h0) (m_atI dC dI (x_n p0) (va_A (m_w0 h0) sz)) (va_A (m_w0 h0) sz)) 9 2138 (va_A (m_w0 h0) sz) := by
  refine Met.ofW (cc := cX1_init) (maxL := 3) (ret := none) (by decide) rfl ?_
  intro p e s m args below meth c s₁ B hml hv
  obtain ⟨rfl, hsz, hP, hK, hD0⟩ := hv
  have hx := B.exec
  have hb := B.bytes
  have hr := B.returns
  have hts : ∀ w ∈ bX1, w.before _ s = true := fun w h => atoms_spec (ws := wsX1_init) B.pre w (List.mem_cons_of_mem _ h)
  have hown : s.vm.findClass RX1 = some m.cls := findClass_of_methodNamed B.named
  have hlocks := B.notSynchronized
  have hin : meth.name = "<init>" := (name_of_methodNamed B.named B.method).1
  subst hsz
  have hD := hD0.self (sz := s.heap.size)
  generalize hAe : va_A (m_w0 h0) s.heap.size = A at hD ⊢
  have hA : ∀ q : Nat, s.heap.size ≤ q → A q := fun q h => by rw [← hAe]; exact Or.inr h
  have hS : va_S A s.heap s.heap [] := va_S.rf
  have hP : va_P (dC, dI) vwCl (m_w0 h0) s.heap := hP
  have tail : ∀ (h : Nat → Nat) (cI : ClassId) (n : Nat) (H : Heap) (locs : List Loc) (ls : Array Slot), h 0 = h0 → n = x_n p0 → va_K (dC, dI) vwCl (m_tys cI) s → va_P (dC, dI) vwCl (m_ws h cI n m_mu0) H → va_D A (m_ws h cI n m_mu0) → va_S A s.heap H locs → lv_has ls 3 [(0, .ref (h 0)), (1, .int p0)] → W p l e (headSpec wsX1_init ({ frames := 1, cells := 9, slots := 2138, locals := 23 })).room s m ([.ref h0, .int p0] : List Value).toArray below meth c H locs 9 2138 (MQ below (va_Qv (fun u : (Nat → Nat) × ClassId => u.1 0 = h0) (m_atI dC dI (x_n p0) A) A) ([.ref h0, .int p0] : List Value).toArray s 9 2138 A) (F0 m 104 ls []) := by
    intro h cI n H locs ls eh en hK hP hD hS hl
    have key : ∀ (f j : Nat) (i : Int32) (τ : MS) (H : Heap) (locs : List Loc) (ls : Array Slot), i = nI j → j ≤ 16 → 17 ≤ j + f → m_ini n m_mu0 p0 = m_ini_l1 n p0 f i τ → va_P (dC, dI) vwCl (m_ws h cI n τ) H → va_D A (m_ws h cI n τ) → va_S A s.heap H locs → lv_has ls 3 [(2, .int i), (0, .ref (h 0)), (1, .int p0)] → W p l e (headSpec wsX1_init ({ frames := 1, cells := 9, slots := 2138, locals := 23 })).room s m ([.ref h0, .int p0] : List Value).toArray below meth c H locs 9 2138 (MQ below (va_Qv (fun u : (Nat → Nat) × ClassId => u.1 0 = h0) (m_atI dC dI (x_n p0) A) A) ([.ref h0, .int p0] : List Value).toArray s 9 2138 A) (F0 m 106 ls []) := by
      intro f
      induction f with
      | zero => intro j i τ H locs ls ej hj hf; exact absurd hf (by omega)
      | succ f ih =>
        intro j i τ H locs ls ej hj hf hm hP hD hS hl
        refine lv_iload_n hx hb dX1_init_106 rfl (lv_at hl 0 rfl) ?_
        refine lv_bipush (v := 16) hx hb dX1_init_107 (by decide) ?_
        refine lv_icmp_ge (tgt := 125) hx hb dX1_init_109 (by decide) (fun c_101 => ?_) (fun c_101 => ?_)
        · refine lv_aload_n hx hb dX1_init_125 rfl (lv_at hl 1 rfl) ?_
          refine lv_iconst (v := 2) hx hb dX1_init_126 (by decide) ?_
          refine lv_iconst (v := 1) hx hb dX1_init_127 (by decide) ?_
          refine lv_iconst (v := 1) hx hb dX1_init_128 (by decide) ?_
          refine m_callv (f := (m_code n τ 2 1 1)) (va_runV (C := RX1) (As := [.int 2, .int 1, .int 1]) (rest := []) ⟨hx, hb, hml, hown, hts⟩ (c_m_code l dC dI h cI n _ τ 2 1 1 (vp_in_nI (n := 2) (by decide) (by decide))) (cwV 3 hts gX1_X1_code rfl rfl rfl (by decide +kernel) ⟨Nat.le_of_ble_eq_true rfl, Nat.le_of_ble_eq_true rfl⟩) (m_preM hK hP hD) rfl rfl hl.1 rfl (lv_room (Nat.le_of_ble_eq_true rfl)) dX1_init_129 ⟨Nat.le_of_ble_eq_true rfl, Nat.le_of_ble_eq_true rfl⟩) hP hD hS hA (fun t_102 H locs e_103 hP hD hS => ?_)
          refine lv_aload_n hx hb dX1_init_132 rfl (lv_at hl 1 rfl) ?_
          refine lv_iconst (v := 3) hx hb dX1_init_133 (by decide) ?_
          refine lv_iconst (v := 0) hx hb dX1_init_134 (by decide) ?_
          refine lv_iconst (v := 1) hx hb dX1_init_135 (by decide) ?_
          refine m_callv (f := (m_code n t_102 3 0 1)) (va_runV (C := RX1) (As := [.int 3, .int 0, .int 1]) (rest := []) ⟨hx, hb, hml, hown, hts⟩ (c_m_code l dC dI h cI n _ t_102 3 0 1 (vp_in_nI (n := 3) (by decide) (by decide))) (cwV 3 hts gX1_X1_code rfl rfl rfl (by decide +kernel) ⟨Nat.le_of_ble_eq_true rfl, Nat.le_of_ble_eq_true rfl⟩) (m_preM hK hP hD) rfl rfl hl.1 rfl (lv_room (Nat.le_of_ble_eq_true rfl)) dX1_init_136 ⟨Nat.le_of_ble_eq_true rfl, Nat.le_of_ble_eq_true rfl⟩) hP hD hS hA (fun t_104 H locs e_105 hP hD hS => ?_)
          refine lv_aload_n hx hb dX1_init_139 rfl (lv_at hl 1 rfl) ?_
          refine lv_iconst (v := 4) hx hb dX1_init_140 (by decide) ?_
          refine lv_iconst (v := 4) hx hb dX1_init_141 (by decide) ?_
          refine lv_iconst (v := 4) hx hb dX1_init_142 (by decide) ?_
          refine m_callv (f := (m_code n t_104 4 4 4)) (va_runV (C := RX1) (As := [.int 4, .int 4, .int 4]) (rest := []) ⟨hx, hb, hml, hown, hts⟩ (c_m_code l dC dI h cI n _ t_104 4 4 4 (vp_in_nI (n := 4) (by decide) (by decide))) (cwV 3 hts gX1_X1_code rfl rfl rfl (by decide +kernel) ⟨Nat.le_of_ble_eq_true rfl, Nat.le_of_ble_eq_true rfl⟩) (m_preM hK hP hD) rfl rfl hl.1 rfl (lv_room (Nat.le_of_ble_eq_true rfl)) dX1_init_143 ⟨Nat.le_of_ble_eq_true rfl, Nat.le_of_ble_eq_true rfl⟩) hP hD hS hA (fun t_106 H locs e_107 hP hD hS => ?_)
          refine lv_aload_n hx hb dX1_init_146 rfl (lv_at hl 1 rfl) ?_
          refine lv_iconst (v := 5) hx hb dX1_init_147 (by decide) ?_
          refine lv_iconst (v := 2) hx hb dX1_init_148 (by decide) ?_
          refine lv_iconst (v := 2) hx hb dX1_init_149 (by decide) ?_
          refine m_callv (f := (m_code n t_106 5 2 2)) (va_runV (C := RX1) (As := [.int 5, .int 2, .int 2]) (rest := []) ⟨hx, hb, hml, hown, hts⟩ (c_m_code l dC dI h cI n _ t_106 5 2 2 (vp_in_nI (n := 5) (by decide) (by decide))) (cwV 3 hts gX1_X1_code rfl rfl rfl (by decide +kernel) ⟨Nat.le_of_ble_eq_true rfl, Nat.le_of_ble_eq_true rfl⟩) (m_preM hK hP hD) rfl rfl hl.1 rfl (lv_room (Nat.le_of_ble_eq_true rfl)) dX1_init_150 ⟨Nat.le_of_ble_eq_true rfl, Nat.le_of_ble_eq_true rfl⟩) hP hD hS hA (fun t_108 H locs e_109 hP hD hS => ?_)
          refine lv_aload_n hx hb dX1_init_153 rfl (lv_at hl 1 rfl) ?_
          refine lv_bipush (v := 6) hx hb dX1_init_154 (by decide) ?_
          refine lv_iconst (v := 1) hx hb dX1_init_156 (by decide) ?_
          refine lv_iconst (v := 2) hx hb dX1_init_157 (by decide) ?_
          refine m_callv (f := (m_code n t_108 6 1 2)) (va_runV (C := RX1) (As := [.int 6, .int 1, .int 2]) (rest := []) ⟨hx, hb, hml, hown, hts⟩ (c_m_code l dC dI h cI n _ t_108 6 1 2 (vp_in_nI (n := 6) (by decide) (by decide))) (cwV 3 hts gX1_X1_code rfl rfl rfl (by decide +kernel) ⟨Nat.le_of_ble_eq_true rfl, Nat.le_of_ble_eq_true rfl⟩) (m_preM hK hP hD) rfl rfl hl.1 rfl (lv_room (Nat.le_of_ble_eq_true rfl)) dX1_init_158 ⟨Nat.le_of_ble_eq_true rfl, Nat.le_of_ble_eq_true rfl⟩) hP hD hS hA (fun t_110 H locs e_111 hP hD hS => ?_)
          refine lv_aload_n hx hb dX1_init_161 rfl (lv_at hl 1 rfl) ?_
          refine lv_bipush (v := 7) hx hb dX1_init_162 (by decide) ?_
          refine lv_iconst (v := 0) hx hb dX1_init_164 (by decide) ?_
          refine lv_iconst (v := 2) hx hb dX1_init_165 (by decide) ?_
          refine m_callv (f := (m_code n t_110 7 0 2)) (va_runV (C := RX1) (As := [.int 7, .int 0, .int 2]) (rest := []) ⟨hx, hb, hml, hown, hts⟩ (c_m_code l dC dI h cI n _ t_110 7 0 2 (vp_in_nI (n := 7) (by decide) (by decide))) (cwV 3 hts gX1_X1_code rfl rfl rfl (by decide +kernel) ⟨Nat.le_of_ble_eq_true rfl, Nat.le_of_ble_eq_true rfl⟩) (m_preM hK hP hD) rfl rfl hl.1 rfl (lv_room (Nat.le_of_ble_eq_true rfl)) dX1_init_166 ⟨Nat.le_of_ble_eq_true rfl, Nat.le_of_ble_eq_true rfl⟩) hP hD hS hA (fun t_112 H locs e_113 hP hD hS => ?_)
          refine lv_aload_n hx hb dX1_init_169 rfl (lv_at hl 1 rfl) ?_
          refine lv_bipush (v := 8) hx hb dX1_init_170 (by decide) ?_
          refine lv_iconst (v := 3) hx hb dX1_init_172 (by decide) ?_
          refine lv_iconst (v := 3) hx hb dX1_init_173 (by decide) ?_
          refine m_callv (f := (m_code n t_112 8 3 3)) (va_runV (C := RX1) (As := [.int 8, .int 3, .int 3]) (rest := []) ⟨hx, hb, hml, hown, hts⟩ (c_m_code l dC dI h cI n _ t_112 8 3 3 (vp_in_nI (n := 8) (by decide) (by decide))) (cwV 3 hts gX1_X1_code rfl rfl rfl (by decide +kernel) ⟨Nat.le_of_ble_eq_true rfl, Nat.le_of_ble_eq_true rfl⟩) (m_preM hK hP hD) rfl rfl hl.1 rfl (lv_room (Nat.le_of_ble_eq_true rfl)) dX1_init_174 ⟨Nat.le_of_ble_eq_true rfl, Nat.le_of_ble_eq_true rfl⟩) hP hD hS hA (fun t_114 H locs e_115 hP hD hS => ?_)
          refine lv_aload_n hx hb dX1_init_177 rfl (lv_at hl 1 rfl) ?_
          refine lv_bipush (v := 9) hx hb dX1_init_178 (by decide) ?_
          refine lv_iconst (v := 2) hx hb dX1_init_180 (by decide) ?_
          refine lv_iconst (v := 3) hx hb dX1_init_181 (by decide) ?_
          refine m_callv (f := (m_code n t_114 9 2 3)) (va_runV (C := RX1) (As := [.int 9, .int 2, .int 3]) (rest := []) ⟨hx, hb, hml, hown, hts⟩ (c_m_code l dC dI h cI n _ t_114 9 2 3 (vp_in_nI (n := 9) (by decide) (by decide))) (cwV 3 hts gX1_X1_code rfl rfl rfl (by decide +kernel) ⟨Nat.le_of_ble_eq_true rfl, Nat.le_of_ble_eq_true rfl⟩) (m_preM hK hP hD) rfl rfl hl.1 rfl (lv_room (Nat.le_of_ble_eq_true rfl)) dX1_init_182 ⟨Nat.le_of_ble_eq_true rfl, Nat.le_of_ble_eq_true rfl⟩) hP hD hS hA (fun t_116 H locs e_117 hP hD hS => ?_)
          refine lv_aload_n hx hb dX1_init_185 rfl (lv_at hl 1 rfl) ?_
          refine lv_bipush (v := 10) hx hb dX1_init_186 (by decide) ?_
          refine lv_iconst (v := 1) hx hb dX1_init_188 (by decide) ?_
          refine lv_iconst (v := 3) hx hb dX1_init_189 (by decide) ?_
          refine m_callv (f := (m_code n t_116 10 1 3)) (va_runV (C := RX1) (As := [.int 10, .int 1, .int 3]) (rest := []) ⟨hx, hb, hml, hown, hts⟩ (c_m_code l dC dI h cI n _ t_116 10 1 3 (vp_in_nI (n := 10) (by decide) (by decide))) (cwV 3 hts gX1_X1_code rfl rfl rfl (by decide +kernel) ⟨Nat.le_of_ble_eq_true rfl, Nat.le_of_ble_eq_true rfl⟩) (m_preM hK hP hD) rfl rfl hl.1 rfl (lv_room (Nat.le_of_ble_eq_true rfl)) dX1_init_190 ⟨Nat.le_of_ble_eq_true rfl, Nat.le_of_ble_eq_true rfl⟩) hP hD hS hA (fun t_118 H locs e_119 hP hD hS => ?_)
          refine lv_aload_n hx hb dX1_init_193 rfl (lv_at hl 1 rfl) ?_
          refine lv_bipush (v := 11) hx hb dX1_init_194 (by decide) ?_
          refine lv_iconst (v := 0) hx hb dX1_init_196 (by decide) ?_
          refine lv_iconst (v := 3) hx hb dX1_init_197 (by decide) ?_
          refine m_callv (f := (m_code n t_118 11 0 3)) (va_runV (C := RX1) (As := [.int 11, .int 0, .int 3]) (rest := []) ⟨hx, hb, hml, hown, hts⟩ (c_m_code l dC dI h cI n _ t_118 11 0 3 (vp_in_nI (n := 11) (by decide) (by decide))) (cwV 3 hts gX1_X1_code rfl rfl rfl (by decide +kernel) ⟨Nat.le_of_ble_eq_true rfl, Nat.le_of_ble_eq_true rfl⟩) (m_preM hK hP hD) rfl rfl hl.1 rfl (lv_room (Nat.le_of_ble_eq_true rfl)) dX1_init_198 ⟨Nat.le_of_ble_eq_true rfl, Nat.le_of_ble_eq_true rfl⟩) hP hD hS hA (fun t_120 H locs e_121 hP hD hS => ?_)
          refine lv_aload_n hx hb dX1_init_201 rfl (lv_at hl 1 rfl) ?_
          refine lv_bipush (v := 12) hx hb dX1_init_202 (by decide) ?_
          refine lv_iconst (v := 3) hx hb dX1_init_204 (by decide) ?_
          refine lv_iconst (v := 4) hx hb dX1_init_205 (by decide) ?_
          refine m_callv (f := (m_code n t_120 12 3 4)) (va_runV (C := RX1) (As := [.int 12, .int 3, .int 4]) (rest := []) ⟨hx, hb, hml, hown, hts⟩ (c_m_code l dC dI h cI n _ t_120 12 3 4 (vp_in_nI (n := 12) (by decide) (by decide))) (cwV 3 hts gX1_X1_code rfl rfl rfl (by decide +kernel) ⟨Nat.le_of_ble_eq_true rfl, Nat.le_of_ble_eq_true rfl⟩) (m_preM hK hP hD) rfl rfl hl.1 rfl (lv_room (Nat.le_of_ble_eq_true rfl)) dX1_init_206 ⟨Nat.le_of_ble_eq_true rfl, Nat.le_of_ble_eq_true rfl⟩) hP hD hS hA (fun t_122 H locs e_123 hP hD hS => ?_)
          refine lv_aload_n hx hb dX1_init_209 rfl (lv_at hl 1 rfl) ?_
          refine lv_bipush (v := 13) hx hb dX1_init_210 (by decide) ?_
          refine lv_iconst (v := 2) hx hb dX1_init_212 (by decide) ?_
          refine lv_iconst (v := 4) hx hb dX1_init_213 (by decide) ?_
          refine m_callv (f := (m_code n t_122 13 2 4)) (va_runV (C := RX1) (As := [.int 13, .int 2, .int 4]) (rest := []) ⟨hx, hb, hml, hown, hts⟩ (c_m_code l dC dI h cI n _ t_122 13 2 4 (vp_in_nI (n := 13) (by decide) (by decide))) (cwV 3 hts gX1_X1_code rfl rfl rfl (by decide +kernel) ⟨Nat.le_of_ble_eq_true rfl, Nat.le_of_ble_eq_true rfl⟩) (m_preM hK hP hD) rfl rfl hl.1 rfl (lv_room (Nat.le_of_ble_eq_true rfl)) dX1_init_214 ⟨Nat.le_of_ble_eq_true rfl, Nat.le_of_ble_eq_true rfl⟩) hP hD hS hA (fun t_124 H locs e_125 hP hD hS => ?_)
          refine lv_aload_n hx hb dX1_init_217 rfl (lv_at hl 1 rfl) ?_
          refine lv_bipush (v := 14) hx hb dX1_init_218 (by decide) ?_
          refine lv_iconst (v := 1) hx hb dX1_init_220 (by decide) ?_
          refine lv_iconst (v := 4) hx hb dX1_init_221 (by decide) ?_
          refine m_callv (f := (m_code n t_124 14 1 4)) (va_runV (C := RX1) (As := [.int 14, .int 1, .int 4]) (rest := []) ⟨hx, hb, hml, hown, hts⟩ (c_m_code l dC dI h cI n _ t_124 14 1 4 (vp_in_nI (n := 14) (by decide) (by decide))) (cwV 3 hts gX1_X1_code rfl rfl rfl (by decide +kernel) ⟨Nat.le_of_ble_eq_true rfl, Nat.le_of_ble_eq_true rfl⟩) (m_preM hK hP hD) rfl rfl hl.1 rfl (lv_room (Nat.le_of_ble_eq_true rfl)) dX1_init_222 ⟨Nat.le_of_ble_eq_true rfl, Nat.le_of_ble_eq_true rfl⟩) hP hD hS hA (fun t_126 H locs e_127 hP hD hS => ?_)
          refine lv_aload_n hx hb dX1_init_225 rfl (lv_at hl 1 rfl) ?_
          refine lv_bipush (v := 15) hx hb dX1_init_226 (by decide) ?_
          refine lv_iconst (v := 0) hx hb dX1_init_228 (by decide) ?_
          refine lv_iconst (v := 4) hx hb dX1_init_229 (by decide) ?_
          refine m_callv (f := (m_code n t_126 15 0 4)) (va_runV (C := RX1) (As := [.int 15, .int 0, .int 4]) (rest := []) ⟨hx, hb, hml, hown, hts⟩ (c_m_code l dC dI h cI n _ t_126 15 0 4 (vp_in_nI (n := 15) (by decide) (by decide))) (cwV 3 hts gX1_X1_code rfl rfl rfl (by decide +kernel) ⟨Nat.le_of_ble_eq_true rfl, Nat.le_of_ble_eq_true rfl⟩) (m_preM hK hP hD) rfl rfl hl.1 rfl (lv_room (Nat.le_of_ble_eq_true rfl)) dX1_init_230 ⟨Nat.le_of_ble_eq_true rfl, Nat.le_of_ble_eq_true rfl⟩) hP hD hS hA (fun t_128 H locs e_129 hP hD hS => ?_)
          have ef : m_ini n m_mu0 p0 = t_128 := hm.trans ((if_pos c_101).trans ((kv_eq e_103).trans ((kv_eq e_105).trans ((kv_eq e_107).trans ((kv_eq e_109).trans ((kv_eq e_111).trans ((kv_eq e_113).trans ((kv_eq e_115).trans ((kv_eq e_117).trans ((kv_eq e_119).trans ((kv_eq e_121).trans ((kv_eq e_123).trans ((kv_eq e_125).trans ((kv_eq e_127).trans ((kv_eq e_129).trans rfl)))))))))))))))
          rw [← ef, m_ini_p p0 0] at hP hD
          exact W.vret hx hb hr (fun t ht hW => ⟨⟨(h, cI), rfl, eh, by rw [ht, ← en]; exact hP, va_K.moved hW.alike hK, by rw [← en]; exact hD⟩, hS.F ht⟩) hS.2.2 dX1_init_233
        · have hlt : j < 16 := x_ltK ⟨16, by omega, rfl⟩ hj ej (by omega) c_101
          refine lv_aload_n hx hb dX1_init_112 rfl (lv_at hl 1 rfl) ?_
          refine va_get (D := (dC, dI)) (ci := 1) (v := .ref (h 4)) (C := RX1) (T := TX1) (N := 14) hx hb hts inbX1 hown hK hP 0 rfl rfl 5 (by decide) (hts _ bX1_5) (fun _ h9 => h9) rfl dX1_init_113 ?_
          refine lv_iload_n hx hb dX1_init_116 rfl (lv_at hl 0 rfl) ?_
          refine lv_iconst (v := (-1)) hx hb dX1_init_117 (by decide) ?_
          refine va_iast hx hb hK hP hD hS 4 0 rfl rfl (by rw [ej]; exact vp_in_nI hlt (by omega)) dX1_init_118 (fun H locs hP hD hS => ?_)
          have hP := m_pPg hP
          have hD := m_dPg hD
          refine lv_iinc (v := (i + 1)) (lv' := [(2, .int (i + 1)), (0, .ref (h 0)), (1, .int p0)]) hx hb dX1_init_119 hl (k := 0) rfl rfl (by decide) rfl (fun ls hl => ?_)
          refine lv_goto (tgt := 106) hx hb dX1_init_122 (by decide) ?_
          exact ih (j + 1) (i + 1) (m_sPg τ (upd (m_pg τ) ((i).toNatClampNeg) (-1))) _ _ _ (by rw [ej]; exact nI_1 j) (by omega) (by omega) (hm.trans ((if_neg c_101).trans rfl)) hP hD hS (lv_sub hl [0, 1, 2] rfl)
    refine lv_iconst (v := 0) hx hb dX1_init_104 (by decide) ?_
    refine lv_istore_n (lv' := [(2, .int 0), (0, .ref (h 0)), (1, .int p0)]) hx hb dX1_init_105 rfl hl (by decide) rfl (fun ls hl => ?_)
    exact key 17 0 0 m_mu0 _ _ _ nI_0.symm (by omega) (by omega) (rfl) hP hD hS (lv_sub hl [0, 1, 2] rfl)
  have hl := lv_entry ([.ref h0, .int p0]) (n := 3) (Nat.le_of_ble_eq_true rfl)
  rw [lg_entry_eq]
  generalize (lg_sl ([.ref h0, .int p0]) ++ List.replicate (3 - (lg_sl ([.ref h0, .int p0])).length) Slot.unset).toArray = ls at hl ⊢
  have hl : lv_has ls 3 [(0, .ref h0), (1, .int p0)] := hl
  refine lv_aload_n hx hb dX1_init_0 rfl (lv_at hl 0 rfl) ?_
  refine W.objInit hx hb hown (hts _ bX1_24) (hts _ bX1_42) (hts _ bX1_98) rfl (by rw [hml]; exact hl.1) rfl dX1_init_1 (Nat.le_of_ble_eq_true rfl) (Nat.le_of_ble_eq_true rfl) ?_
  refine W.eq (g2 := F0 m 4 ls []) rfl ?_
  refine lv_aload_n hx hb dX1_init_4 rfl (lv_at hl 0 rfl) ?_
  refine lv_sipush (v := 2048) hx hb dX1_init_5 (by decide) ?_
  have hc_1 : 0 + 1 ≤ 9 := by decide
  have hs_1 : 0 + 2048 ≤ 2138 := by decide
  refine va_newa (atype := .int) (ty := .int) (a0 := (2048, .inl (fun _ => 0))) hx hb (hts _ bX1_23) rfl hK hP hD hS hA (fun cA => rfl) (by decide) rfl (by decide) hc_1 hs_1 dX1_init_8 (fun q1 a1 H hK hP hD hS => ?_)
  have hK : va_K (dC, dI) vwCl [(a1, .int)] s := hK
  have hP : va_P (dC, dI) vwCl [(h0, .inr (1, [.null, .int 0, .null, .null, .int 0, .null, .null, .null, .null, .null, .null, .int 0, .int 0, .int 0])), (q1, .inl (a1, 2048, .inl (fun _ => 0)))] H := hP
  have hD : va_D A [(h0, .inr (1, [.null, .int 0, .null, .null, .int 0, .null, .null, .null, .null, .null, .null, .int 0, .int 0, .int 0])), (q1, .inl (a1, 2048, .inl (fun _ => 0)))] := hD
  refine W.widen (k := 1) (n := 2048) (by omega) (by omega) ?_
  refine va_putF (D := (dC, dI)) (ci := 1) (v := .ref q1) (ty := .array .int) (C := RX1) (T := TX1) (N := 14) hx hb hts inbX1 tyX1 tyX1_ok nmX1 hown hK hP hD hS 0 rfl rfl 0 (by decide) (hts _ bX1_0) (fun _ h9 => h9) rfl hin rfl (by decide +kernel) rfl rfl (Nat.le_of_ble_eq_true rfl) dX1_init_10 (fun H locs hP hD hS => ?_)
  have hP : va_P (dC, dI) vwCl [(h0, .inr (1, [.ref q1, .int 0, .null, .null, .int 0, .null, .null, .null, .null, .null, .null, .int 0, .int 0, .int 0])), (q1, .inl (a1, 2048, .inl (fun _ => 0)))] H := hP
  have hD : va_D A [(h0, .inr (1, [.ref q1, .int 0, .null, .null, .int 0, .null, .null, .null, .null, .null, .null, .int 0, .int 0, .int 0])), (q1, .inl (a1, 2048, .inl (fun _ => 0)))] := hD
  refine lv_aload_n hx hb dX1_init_13 rfl (lv_at hl 0 rfl) ?_
  refine lv_iconst (v := 3) hx hb dX1_init_14 (by decide) ?_
  have hc_2 : 1 + 1 ≤ 9 := by decide
  have hs_2 : 2048 + 3 ≤ 2138 := by decide
  refine va_newa (atype := .int) (ty := .int) (a0 := (3, .inl (fun _ => 0))) hx hb (hts _ bX1_23) rfl hK hP hD hS hA (fun cA => rfl) (by decide) rfl (by decide) hc_2 hs_2 dX1_init_15 (fun q2 a2 H hK hP hD hS => ?_)
  have hK : va_K (dC, dI) vwCl [(a1, .int), (a2, .int)] s := hK
  obtain rfl : a1 = a2 := Option.some.inj ((hK.2 0 _ rfl).2.symm.trans (hK.2 1 _ rfl).2)
  have hK : va_K (dC, dI) vwCl [(a1, .int)] s := hK.sub [0] rfl
  have hP : va_P (dC, dI) vwCl [(h0, .inr (1, [.ref q1, .int 0, .null, .null, .int 0, .null, .null, .null, .null, .null, .null, .int 0, .int 0, .int 0])), (q1, .inl (a1, 2048, .inl (fun _ => 0))), (q2, .inl (a1, 3, .inl (fun _ => 0)))] H := hP
  have hD : va_D A [(h0, .inr (1, [.ref q1, .int 0, .null, .null, .int 0, .null, .null, .null, .null, .null, .null, .int 0, .int 0, .int 0])), (q1, .inl (a1, 2048, .inl (fun _ => 0))), (q2, .inl (a1, 3, .inl (fun _ => 0)))] := hD
  refine W.widen (k := 2) (n := 2051) (by omega) (by omega) ?_
  refine va_putF (D := (dC, dI)) (ci := 1) (v := .ref q2) (ty := .array .int) (C := RX1) (T := TX1) (N := 14) hx hb hts inbX1 tyX1 tyX1_ok nmX1 hown hK hP hD hS 0 rfl rfl 2 (by decide) (hts _ bX1_2) (fun _ h9 => h9) rfl hin rfl (by decide +kernel) rfl rfl (Nat.le_of_ble_eq_true rfl) dX1_init_17 (fun H locs hP hD hS => ?_)
  have hP : va_P (dC, dI) vwCl [(h0, .inr (1, [.ref q1, .int 0, .ref q2, .null, .int 0, .null, .null, .null, .null, .null, .null, .int 0, .int 0, .int 0])), (q1, .inl (a1, 2048, .inl (fun _ => 0))), (q2, .inl (a1, 3, .inl (fun _ => 0)))] H := hP
  have hD : va_D A [(h0, .inr (1, [.ref q1, .int 0, .ref q2, .null, .int 0, .null, .null, .null, .null, .null, .null, .int 0, .int 0, .int 0])), (q1, .inl (a1, 2048, .inl (fun _ => 0))), (q2, .inl (a1, 3, .inl (fun _ => 0)))] := hD
  refine lv_aload_n hx hb dX1_init_20 rfl (lv_at hl 0 rfl) ?_
  refine lv_iconst (v := 3) hx hb dX1_init_21 (by decide) ?_
  have hc_3 : 2 + 1 ≤ 9 := by decide
  have hs_3 : 2051 + 3 ≤ 2138 := by decide
  refine va_newa (atype := .int) (ty := .int) (a0 := (3, .inl (fun _ => 0))) hx hb (hts _ bX1_23) rfl hK hP hD hS hA (fun cA => rfl) (by decide) rfl (by decide) hc_3 hs_3 dX1_init_22 (fun q3 a3 H hK hP hD hS => ?_)
  have hK : va_K (dC, dI) vwCl [(a1, .int), (a3, .int)] s := hK
  obtain rfl : a1 = a3 := Option.some.inj ((hK.2 0 _ rfl).2.symm.trans (hK.2 1 _ rfl).2)
  have hK : va_K (dC, dI) vwCl [(a1, .int)] s := hK.sub [0] rfl
  have hP : va_P (dC, dI) vwCl [(h0, .inr (1, [.ref q1, .int 0, .ref q2, .null, .int 0, .null, .null, .null, .null, .null, .null, .int 0, .int 0, .int 0])), (q1, .inl (a1, 2048, .inl (fun _ => 0))), (q2, .inl (a1, 3, .inl (fun _ => 0))), (q3, .inl (a1, 3, .inl (fun _ => 0)))] H := hP
  have hD : va_D A [(h0, .inr (1, [.ref q1, .int 0, .ref q2, .null, .int 0, .null, .null, .null, .null, .null, .null, .int 0, .int 0, .int 0])), (q1, .inl (a1, 2048, .inl (fun _ => 0))), (q2, .inl (a1, 3, .inl (fun _ => 0))), (q3, .inl (a1, 3, .inl (fun _ => 0)))] := hD
  refine W.widen (k := 3) (n := 2054) (by omega) (by omega) ?_
  refine va_putF (D := (dC, dI)) (ci := 1) (v := .ref q3) (ty := .array .int) (C := RX1) (T := TX1) (N := 14) hx hb hts inbX1 tyX1 tyX1_ok nmX1 hown hK hP hD hS 0 rfl rfl 3 (by decide) (hts _ bX1_3) (fun _ h9 => h9) rfl hin rfl (by decide +kernel) rfl rfl (Nat.le_of_ble_eq_true rfl) dX1_init_24 (fun H locs hP hD hS => ?_)
  have hP : va_P (dC, dI) vwCl [(h0, .inr (1, [.ref q1, .int 0, .ref q2, .ref q3, .int 0, .null, .null, .null, .null, .null, .null, .int 0, .int 0, .int 0])), (q1, .inl (a1, 2048, .inl (fun _ => 0))), (q2, .inl (a1, 3, .inl (fun _ => 0))), (q3, .inl (a1, 3, .inl (fun _ => 0)))] H := hP
  have hD : va_D A [(h0, .inr (1, [.ref q1, .int 0, .ref q2, .ref q3, .int 0, .null, .null, .null, .null, .null, .null, .int 0, .int 0, .int 0])), (q1, .inl (a1, 2048, .inl (fun _ => 0))), (q2, .inl (a1, 3, .inl (fun _ => 0))), (q3, .inl (a1, 3, .inl (fun _ => 0)))] := hD
  refine lv_aload_n hx hb dX1_init_27 rfl (lv_at hl 0 rfl) ?_
  refine lv_bipush (v := 16) hx hb dX1_init_28 (by decide) ?_
  have hc_4 : 3 + 1 ≤ 9 := by decide
  have hs_4 : 2054 + 16 ≤ 2138 := by decide
  refine va_newa (atype := .int) (ty := .int) (a0 := (16, .inl (fun _ => 0))) hx hb (hts _ bX1_23) rfl hK hP hD hS hA (fun cA => rfl) (by decide) rfl (by decide) hc_4 hs_4 dX1_init_30 (fun q4 a4 H hK hP hD hS => ?_)
  have hK : va_K (dC, dI) vwCl [(a1, .int), (a4, .int)] s := hK
  obtain rfl : a1 = a4 := Option.some.inj ((hK.2 0 _ rfl).2.symm.trans (hK.2 1 _ rfl).2)
  have hK : va_K (dC, dI) vwCl [(a1, .int)] s := hK.sub [0] rfl
  have hP : va_P (dC, dI) vwCl [(h0, .inr (1, [.ref q1, .int 0, .ref q2, .ref q3, .int 0, .null, .null, .null, .null, .null, .null, .int 0, .int 0, .int 0])), (q1, .inl (a1, 2048, .inl (fun _ => 0))), (q2, .inl (a1, 3, .inl (fun _ => 0))), (q3, .inl (a1, 3, .inl (fun _ => 0))), (q4, .inl (a1, 16, .inl (fun _ => 0)))] H := hP
  have hD : va_D A [(h0, .inr (1, [.ref q1, .int 0, .ref q2, .ref q3, .int 0, .null, .null, .null, .null, .null, .null, .int 0, .int 0, .int 0])), (q1, .inl (a1, 2048, .inl (fun _ => 0))), (q2, .inl (a1, 3, .inl (fun _ => 0))), (q3, .inl (a1, 3, .inl (fun _ => 0))), (q4, .inl (a1, 16, .inl (fun _ => 0)))] := hD
  refine W.widen (k := 4) (n := 2070) (by omega) (by omega) ?_
  refine va_putF (D := (dC, dI)) (ci := 1) (v := .ref q4) (ty := .array .int) (C := RX1) (T := TX1) (N := 14) hx hb hts inbX1 tyX1 tyX1_ok nmX1 hown hK hP hD hS 0 rfl rfl 5 (by decide) (hts _ bX1_5) (fun _ h9 => h9) rfl hin rfl (by decide +kernel) rfl rfl (Nat.le_of_ble_eq_true rfl) dX1_init_32 (fun H locs hP hD hS => ?_)
  have hP : va_P (dC, dI) vwCl [(h0, .inr (1, [.ref q1, .int 0, .ref q2, .ref q3, .int 0, .ref q4, .null, .null, .null, .null, .null, .int 0, .int 0, .int 0])), (q1, .inl (a1, 2048, .inl (fun _ => 0))), (q2, .inl (a1, 3, .inl (fun _ => 0))), (q3, .inl (a1, 3, .inl (fun _ => 0))), (q4, .inl (a1, 16, .inl (fun _ => 0)))] H := hP
  have hD : va_D A [(h0, .inr (1, [.ref q1, .int 0, .ref q2, .ref q3, .int 0, .ref q4, .null, .null, .null, .null, .null, .int 0, .int 0, .int 0])), (q1, .inl (a1, 2048, .inl (fun _ => 0))), (q2, .inl (a1, 3, .inl (fun _ => 0))), (q3, .inl (a1, 3, .inl (fun _ => 0))), (q4, .inl (a1, 16, .inl (fun _ => 0)))] := hD
  refine lv_aload_n hx hb dX1_init_35 rfl (lv_at hl 0 rfl) ?_
  refine lv_bipush (v := 16) hx hb dX1_init_36 (by decide) ?_
  have hc_5 : 4 + 1 ≤ 9 := by decide
  have hs_5 : 2070 + 16 ≤ 2138 := by decide
  refine va_newa (atype := .int) (ty := .int) (a0 := (16, .inl (fun _ => 0))) hx hb (hts _ bX1_23) rfl hK hP hD hS hA (fun cA => rfl) (by decide) rfl (by decide) hc_5 hs_5 dX1_init_38 (fun q5 a5 H hK hP hD hS => ?_)
  have hK : va_K (dC, dI) vwCl [(a1, .int), (a5, .int)] s := hK
  obtain rfl : a1 = a5 := Option.some.inj ((hK.2 0 _ rfl).2.symm.trans (hK.2 1 _ rfl).2)
  have hK : va_K (dC, dI) vwCl [(a1, .int)] s := hK.sub [0] rfl
  have hP : va_P (dC, dI) vwCl [(h0, .inr (1, [.ref q1, .int 0, .ref q2, .ref q3, .int 0, .ref q4, .null, .null, .null, .null, .null, .int 0, .int 0, .int 0])), (q1, .inl (a1, 2048, .inl (fun _ => 0))), (q2, .inl (a1, 3, .inl (fun _ => 0))), (q3, .inl (a1, 3, .inl (fun _ => 0))), (q4, .inl (a1, 16, .inl (fun _ => 0))), (q5, .inl (a1, 16, .inl (fun _ => 0)))] H := hP
  have hD : va_D A [(h0, .inr (1, [.ref q1, .int 0, .ref q2, .ref q3, .int 0, .ref q4, .null, .null, .null, .null, .null, .int 0, .int 0, .int 0])), (q1, .inl (a1, 2048, .inl (fun _ => 0))), (q2, .inl (a1, 3, .inl (fun _ => 0))), (q3, .inl (a1, 3, .inl (fun _ => 0))), (q4, .inl (a1, 16, .inl (fun _ => 0))), (q5, .inl (a1, 16, .inl (fun _ => 0)))] := hD
  refine W.widen (k := 5) (n := 2086) (by omega) (by omega) ?_
  refine va_putF (D := (dC, dI)) (ci := 1) (v := .ref q5) (ty := .array .int) (C := RX1) (T := TX1) (N := 14) hx hb hts inbX1 tyX1 tyX1_ok nmX1 hown hK hP hD hS 0 rfl rfl 6 (by decide) (hts _ bX1_6) (fun _ h9 => h9) rfl hin rfl (by decide +kernel) rfl rfl (Nat.le_of_ble_eq_true rfl) dX1_init_40 (fun H locs hP hD hS => ?_)
  have hP : va_P (dC, dI) vwCl [(h0, .inr (1, [.ref q1, .int 0, .ref q2, .ref q3, .int 0, .ref q4, .ref q5, .null, .null, .null, .null, .int 0, .int 0, .int 0])), (q1, .inl (a1, 2048, .inl (fun _ => 0))), (q2, .inl (a1, 3, .inl (fun _ => 0))), (q3, .inl (a1, 3, .inl (fun _ => 0))), (q4, .inl (a1, 16, .inl (fun _ => 0))), (q5, .inl (a1, 16, .inl (fun _ => 0)))] H := hP
  have hD : va_D A [(h0, .inr (1, [.ref q1, .int 0, .ref q2, .ref q3, .int 0, .ref q4, .ref q5, .null, .null, .null, .null, .int 0, .int 0, .int 0])), (q1, .inl (a1, 2048, .inl (fun _ => 0))), (q2, .inl (a1, 3, .inl (fun _ => 0))), (q3, .inl (a1, 3, .inl (fun _ => 0))), (q4, .inl (a1, 16, .inl (fun _ => 0))), (q5, .inl (a1, 16, .inl (fun _ => 0)))] := hD
  refine lv_aload_n hx hb dX1_init_43 rfl (lv_at hl 0 rfl) ?_
  refine lv_bipush (v := 16) hx hb dX1_init_44 (by decide) ?_
  have hc_6 : 5 + 1 ≤ 9 := by decide
  have hs_6 : 2086 + 16 ≤ 2138 := by decide
  refine va_newa (atype := .int) (ty := .int) (a0 := (16, .inl (fun _ => 0))) hx hb (hts _ bX1_23) rfl hK hP hD hS hA (fun cA => rfl) (by decide) rfl (by decide) hc_6 hs_6 dX1_init_46 (fun q6 a6 H hK hP hD hS => ?_)
  have hK : va_K (dC, dI) vwCl [(a1, .int), (a6, .int)] s := hK
  obtain rfl : a1 = a6 := Option.some.inj ((hK.2 0 _ rfl).2.symm.trans (hK.2 1 _ rfl).2)
  have hK : va_K (dC, dI) vwCl [(a1, .int)] s := hK.sub [0] rfl
  have hP : va_P (dC, dI) vwCl [(h0, .inr (1, [.ref q1, .int 0, .ref q2, .ref q3, .int 0, .ref q4, .ref q5, .null, .null, .null, .null, .int 0, .int 0, .int 0])), (q1, .inl (a1, 2048, .inl (fun _ => 0))), (q2, .inl (a1, 3, .inl (fun _ => 0))), (q3, .inl (a1, 3, .inl (fun _ => 0))), (q4, .inl (a1, 16, .inl (fun _ => 0))), (q5, .inl (a1, 16, .inl (fun _ => 0))), (q6, .inl (a1, 16, .inl (fun _ => 0)))] H := hP
  have hD : va_D A [(h0, .inr (1, [.ref q1, .int 0, .ref q2, .ref q3, .int 0, .ref q4, .ref q5, .null, .null, .null, .null, .int 0, .int 0, .int 0])), (q1, .inl (a1, 2048, .inl (fun _ => 0))), (q2, .inl (a1, 3, .inl (fun _ => 0))), (q3, .inl (a1, 3, .inl (fun _ => 0))), (q4, .inl (a1, 16, .inl (fun _ => 0))), (q5, .inl (a1, 16, .inl (fun _ => 0))), (q6, .inl (a1, 16, .inl (fun _ => 0)))] := hD
  refine W.widen (k := 6) (n := 2102) (by omega) (by omega) ?_
  refine va_putF (D := (dC, dI)) (ci := 1) (v := .ref q6) (ty := .array .int) (C := RX1) (T := TX1) (N := 14) hx hb hts inbX1 tyX1 tyX1_ok nmX1 hown hK hP hD hS 0 rfl rfl 7 (by decide) (hts _ bX1_7) (fun _ h9 => h9) rfl hin rfl (by decide +kernel) rfl rfl (Nat.le_of_ble_eq_true rfl) dX1_init_48 (fun H locs hP hD hS => ?_)
  have hP : va_P (dC, dI) vwCl [(h0, .inr (1, [.ref q1, .int 0, .ref q2, .ref q3, .int 0, .ref q4, .ref q5, .ref q6, .null, .null, .null, .int 0, .int 0, .int 0])), (q1, .inl (a1, 2048, .inl (fun _ => 0))), (q2, .inl (a1, 3, .inl (fun _ => 0))), (q3, .inl (a1, 3, .inl (fun _ => 0))), (q4, .inl (a1, 16, .inl (fun _ => 0))), (q5, .inl (a1, 16, .inl (fun _ => 0))), (q6, .inl (a1, 16, .inl (fun _ => 0)))] H := hP
  have hD : va_D A [(h0, .inr (1, [.ref q1, .int 0, .ref q2, .ref q3, .int 0, .ref q4, .ref q5, .ref q6, .null, .null, .null, .int 0, .int 0, .int 0])), (q1, .inl (a1, 2048, .inl (fun _ => 0))), (q2, .inl (a1, 3, .inl (fun _ => 0))), (q3, .inl (a1, 3, .inl (fun _ => 0))), (q4, .inl (a1, 16, .inl (fun _ => 0))), (q5, .inl (a1, 16, .inl (fun _ => 0))), (q6, .inl (a1, 16, .inl (fun _ => 0)))] := hD
  refine lv_aload_n hx hb dX1_init_51 rfl (lv_at hl 0 rfl) ?_
  refine lv_bipush (v := 16) hx hb dX1_init_52 (by decide) ?_
  have hc_7 : 6 + 1 ≤ 9 := by decide
  have hs_7 : 2102 + 16 ≤ 2138 := by decide
  refine va_newa (atype := .int) (ty := .int) (a0 := (16, .inl (fun _ => 0))) hx hb (hts _ bX1_23) rfl hK hP hD hS hA (fun cA => rfl) (by decide) rfl (by decide) hc_7 hs_7 dX1_init_54 (fun q7 a7 H hK hP hD hS => ?_)
  have hK : va_K (dC, dI) vwCl [(a1, .int), (a7, .int)] s := hK
  obtain rfl : a1 = a7 := Option.some.inj ((hK.2 0 _ rfl).2.symm.trans (hK.2 1 _ rfl).2)
  have hK : va_K (dC, dI) vwCl [(a1, .int)] s := hK.sub [0] rfl
  have hP : va_P (dC, dI) vwCl [(h0, .inr (1, [.ref q1, .int 0, .ref q2, .ref q3, .int 0, .ref q4, .ref q5, .ref q6, .null, .null, .null, .int 0, .int 0, .int 0])), (q1, .inl (a1, 2048, .inl (fun _ => 0))), (q2, .inl (a1, 3, .inl (fun _ => 0))), (q3, .inl (a1, 3, .inl (fun _ => 0))), (q4, .inl (a1, 16, .inl (fun _ => 0))), (q5, .inl (a1, 16, .inl (fun _ => 0))), (q6, .inl (a1, 16, .inl (fun _ => 0))), (q7, .inl (a1, 16, .inl (fun _ => 0)))] H := hP
  have hD : va_D A [(h0, .inr (1, [.ref q1, .int 0, .ref q2, .ref q3, .int 0, .ref q4, .ref q5, .ref q6, .null, .null, .null, .int 0, .int 0, .int 0])), (q1, .inl (a1, 2048, .inl (fun _ => 0))), (q2, .inl (a1, 3, .inl (fun _ => 0))), (q3, .inl (a1, 3, .inl (fun _ => 0))), (q4, .inl (a1, 16, .inl (fun _ => 0))), (q5, .inl (a1, 16, .inl (fun _ => 0))), (q6, .inl (a1, 16, .inl (fun _ => 0))), (q7, .inl (a1, 16, .inl (fun _ => 0)))] := hD
  refine W.widen (k := 7) (n := 2118) (by omega) (by omega) ?_
  refine va_putF (D := (dC, dI)) (ci := 1) (v := .ref q7) (ty := .array .int) (C := RX1) (T := TX1) (N := 14) hx hb hts inbX1 tyX1 tyX1_ok nmX1 hown hK hP hD hS 0 rfl rfl 8 (by decide) (hts _ bX1_8) (fun _ h9 => h9) rfl hin rfl (by decide +kernel) rfl rfl (Nat.le_of_ble_eq_true rfl) dX1_init_56 (fun H locs hP hD hS => ?_)
  have hP : va_P (dC, dI) vwCl [(h0, .inr (1, [.ref q1, .int 0, .ref q2, .ref q3, .int 0, .ref q4, .ref q5, .ref q6, .ref q7, .null, .null, .int 0, .int 0, .int 0])), (q1, .inl (a1, 2048, .inl (fun _ => 0))), (q2, .inl (a1, 3, .inl (fun _ => 0))), (q3, .inl (a1, 3, .inl (fun _ => 0))), (q4, .inl (a1, 16, .inl (fun _ => 0))), (q5, .inl (a1, 16, .inl (fun _ => 0))), (q6, .inl (a1, 16, .inl (fun _ => 0))), (q7, .inl (a1, 16, .inl (fun _ => 0)))] H := hP
  have hD : va_D A [(h0, .inr (1, [.ref q1, .int 0, .ref q2, .ref q3, .int 0, .ref q4, .ref q5, .ref q6, .ref q7, .null, .null, .int 0, .int 0, .int 0])), (q1, .inl (a1, 2048, .inl (fun _ => 0))), (q2, .inl (a1, 3, .inl (fun _ => 0))), (q3, .inl (a1, 3, .inl (fun _ => 0))), (q4, .inl (a1, 16, .inl (fun _ => 0))), (q5, .inl (a1, 16, .inl (fun _ => 0))), (q6, .inl (a1, 16, .inl (fun _ => 0))), (q7, .inl (a1, 16, .inl (fun _ => 0)))] := hD
  refine lv_aload_n hx hb dX1_init_59 rfl (lv_at hl 0 rfl) ?_
  refine lv_bipush (v := 16) hx hb dX1_init_60 (by decide) ?_
  have hc_8 : 7 + 1 ≤ 9 := by decide
  have hs_8 : 2118 + 16 ≤ 2138 := by decide
  refine va_newa (atype := .int) (ty := .int) (a0 := (16, .inl (fun _ => 0))) hx hb (hts _ bX1_23) rfl hK hP hD hS hA (fun cA => rfl) (by decide) rfl (by decide) hc_8 hs_8 dX1_init_62 (fun q8 a8 H hK hP hD hS => ?_)
  have hK : va_K (dC, dI) vwCl [(a1, .int), (a8, .int)] s := hK
  obtain rfl : a1 = a8 := Option.some.inj ((hK.2 0 _ rfl).2.symm.trans (hK.2 1 _ rfl).2)
  have hK : va_K (dC, dI) vwCl [(a1, .int)] s := hK.sub [0] rfl
  have hP : va_P (dC, dI) vwCl [(h0, .inr (1, [.ref q1, .int 0, .ref q2, .ref q3, .int 0, .ref q4, .ref q5, .ref q6, .ref q7, .null, .null, .int 0, .int 0, .int 0])), (q1, .inl (a1, 2048, .inl (fun _ => 0))), (q2, .inl (a1, 3, .inl (fun _ => 0))), (q3, .inl (a1, 3, .inl (fun _ => 0))), (q4, .inl (a1, 16, .inl (fun _ => 0))), (q5, .inl (a1, 16, .inl (fun _ => 0))), (q6, .inl (a1, 16, .inl (fun _ => 0))), (q7, .inl (a1, 16, .inl (fun _ => 0))), (q8, .inl (a1, 16, .inl (fun _ => 0)))] H := hP
  have hD : va_D A [(h0, .inr (1, [.ref q1, .int 0, .ref q2, .ref q3, .int 0, .ref q4, .ref q5, .ref q6, .ref q7, .null, .null, .int 0, .int 0, .int 0])), (q1, .inl (a1, 2048, .inl (fun _ => 0))), (q2, .inl (a1, 3, .inl (fun _ => 0))), (q3, .inl (a1, 3, .inl (fun _ => 0))), (q4, .inl (a1, 16, .inl (fun _ => 0))), (q5, .inl (a1, 16, .inl (fun _ => 0))), (q6, .inl (a1, 16, .inl (fun _ => 0))), (q7, .inl (a1, 16, .inl (fun _ => 0))), (q8, .inl (a1, 16, .inl (fun _ => 0)))] := hD
  refine W.widen (k := 8) (n := 2134) (by omega) (by omega) ?_
  refine va_putF (D := (dC, dI)) (ci := 1) (v := .ref q8) (ty := .array .int) (C := RX1) (T := TX1) (N := 14) hx hb hts inbX1 tyX1 tyX1_ok nmX1 hown hK hP hD hS 0 rfl rfl 9 (by decide) (hts _ bX1_9) (fun _ h9 => h9) rfl hin rfl (by decide +kernel) rfl rfl (Nat.le_of_ble_eq_true rfl) dX1_init_64 (fun H locs hP hD hS => ?_)
  have hP : va_P (dC, dI) vwCl [(h0, .inr (1, [.ref q1, .int 0, .ref q2, .ref q3, .int 0, .ref q4, .ref q5, .ref q6, .ref q7, .ref q8, .null, .int 0, .int 0, .int 0])), (q1, .inl (a1, 2048, .inl (fun _ => 0))), (q2, .inl (a1, 3, .inl (fun _ => 0))), (q3, .inl (a1, 3, .inl (fun _ => 0))), (q4, .inl (a1, 16, .inl (fun _ => 0))), (q5, .inl (a1, 16, .inl (fun _ => 0))), (q6, .inl (a1, 16, .inl (fun _ => 0))), (q7, .inl (a1, 16, .inl (fun _ => 0))), (q8, .inl (a1, 16, .inl (fun _ => 0)))] H := hP
  have hD : va_D A [(h0, .inr (1, [.ref q1, .int 0, .ref q2, .ref q3, .int 0, .ref q4, .ref q5, .ref q6, .ref q7, .ref q8, .null, .int 0, .int 0, .int 0])), (q1, .inl (a1, 2048, .inl (fun _ => 0))), (q2, .inl (a1, 3, .inl (fun _ => 0))), (q3, .inl (a1, 3, .inl (fun _ => 0))), (q4, .inl (a1, 16, .inl (fun _ => 0))), (q5, .inl (a1, 16, .inl (fun _ => 0))), (q6, .inl (a1, 16, .inl (fun _ => 0))), (q7, .inl (a1, 16, .inl (fun _ => 0))), (q8, .inl (a1, 16, .inl (fun _ => 0)))] := hD
  refine lv_aload_n hx hb dX1_init_67 rfl (lv_at hl 0 rfl) ?_
  refine lv_iconst (v := 4) hx hb dX1_init_68 (by decide) ?_
  have hc_9 : 8 + 1 ≤ 9 := by decide
  have hs_9 : 2134 + 4 ≤ 2138 := by decide
  refine va_newa (atype := .int) (ty := .int) (a0 := (4, .inl (fun _ => 0))) hx hb (hts _ bX1_23) rfl hK hP hD hS hA (fun cA => rfl) (by decide) rfl (by decide) hc_9 hs_9 dX1_init_69 (fun q9 a9 H hK hP hD hS => ?_)
  have hK : va_K (dC, dI) vwCl [(a1, .int), (a9, .int)] s := hK
  obtain rfl : a1 = a9 := Option.some.inj ((hK.2 0 _ rfl).2.symm.trans (hK.2 1 _ rfl).2)
  have hK : va_K (dC, dI) vwCl [(a1, .int)] s := hK.sub [0] rfl
  have hP : va_P (dC, dI) vwCl [(h0, .inr (1, [.ref q1, .int 0, .ref q2, .ref q3, .int 0, .ref q4, .ref q5, .ref q6, .ref q7, .ref q8, .null, .int 0, .int 0, .int 0])), (q1, .inl (a1, 2048, .inl (fun _ => 0))), (q2, .inl (a1, 3, .inl (fun _ => 0))), (q3, .inl (a1, 3, .inl (fun _ => 0))), (q4, .inl (a1, 16, .inl (fun _ => 0))), (q5, .inl (a1, 16, .inl (fun _ => 0))), (q6, .inl (a1, 16, .inl (fun _ => 0))), (q7, .inl (a1, 16, .inl (fun _ => 0))), (q8, .inl (a1, 16, .inl (fun _ => 0))), (q9, .inl (a1, 4, .inl (fun _ => 0)))] H := hP
  have hD : va_D A [(h0, .inr (1, [.ref q1, .int 0, .ref q2, .ref q3, .int 0, .ref q4, .ref q5, .ref q6, .ref q7, .ref q8, .null, .int 0, .int 0, .int 0])), (q1, .inl (a1, 2048, .inl (fun _ => 0))), (q2, .inl (a1, 3, .inl (fun _ => 0))), (q3, .inl (a1, 3, .inl (fun _ => 0))), (q4, .inl (a1, 16, .inl (fun _ => 0))), (q5, .inl (a1, 16, .inl (fun _ => 0))), (q6, .inl (a1, 16, .inl (fun _ => 0))), (q7, .inl (a1, 16, .inl (fun _ => 0))), (q8, .inl (a1, 16, .inl (fun _ => 0))), (q9, .inl (a1, 4, .inl (fun _ => 0)))] := hD
  refine W.widen (k := 9) (n := 2138) (by omega) (by omega) ?_
  refine va_putF (D := (dC, dI)) (ci := 1) (v := .ref q9) (ty := .array .int) (C := RX1) (T := TX1) (N := 14) hx hb hts inbX1 tyX1 tyX1_ok nmX1 hown hK hP hD hS 0 rfl rfl 10 (by decide) (hts _ bX1_10) (fun _ h9 => h9) rfl hin rfl (by decide +kernel) rfl rfl (Nat.le_of_ble_eq_true rfl) dX1_init_71 (fun H locs hP hD hS => ?_)
  have hP : va_P (dC, dI) vwCl [(h0, .inr (1, [.ref q1, .int 0, .ref q2, .ref q3, .int 0, .ref q4, .ref q5, .ref q6, .ref q7, .ref q8, .ref q9, .int 0, .int 0, .int 0])), (q1, .inl (a1, 2048, .inl (fun _ => 0))), (q2, .inl (a1, 3, .inl (fun _ => 0))), (q3, .inl (a1, 3, .inl (fun _ => 0))), (q4, .inl (a1, 16, .inl (fun _ => 0))), (q5, .inl (a1, 16, .inl (fun _ => 0))), (q6, .inl (a1, 16, .inl (fun _ => 0))), (q7, .inl (a1, 16, .inl (fun _ => 0))), (q8, .inl (a1, 16, .inl (fun _ => 0))), (q9, .inl (a1, 4, .inl (fun _ => 0)))] H := hP
  have hD : va_D A [(h0, .inr (1, [.ref q1, .int 0, .ref q2, .ref q3, .int 0, .ref q4, .ref q5, .ref q6, .ref q7, .ref q8, .ref q9, .int 0, .int 0, .int 0])), (q1, .inl (a1, 2048, .inl (fun _ => 0))), (q2, .inl (a1, 3, .inl (fun _ => 0))), (q3, .inl (a1, 3, .inl (fun _ => 0))), (q4, .inl (a1, 16, .inl (fun _ => 0))), (q5, .inl (a1, 16, .inl (fun _ => 0))), (q6, .inl (a1, 16, .inl (fun _ => 0))), (q7, .inl (a1, 16, .inl (fun _ => 0))), (q8, .inl (a1, 16, .inl (fun _ => 0))), (q9, .inl (a1, 4, .inl (fun _ => 0)))] := hD
  refine lv_aload_n hx hb dX1_init_74 rfl (lv_at hl 0 rfl) ?_
  refine lv_iconst (v := (-1)) hx hb dX1_init_75 (by decide) ?_
  refine va_put (D := (dC, dI)) (ci := 1) (v := .int (-1)) (ty := .int) (C := RX1) (T := TX1) (N := 14) hx hb hts inbX1 tyX1 tyX1_ok nmX1 hown hK hP hD hS 0 rfl rfl 11 (by decide) (hts _ bX1_11) (fun _ h9 => h9) rfl (by decide +kernel) rfl rfl (Nat.le_of_ble_eq_true rfl) dX1_init_76 (fun H locs hP hD hS => ?_)
  have hP : va_P (dC, dI) vwCl [(h0, .inr (1, [.ref q1, .int 0, .ref q2, .ref q3, .int 0, .ref q4, .ref q5, .ref q6, .ref q7, .ref q8, .ref q9, .int (-1), .int 0, .int 0])), (q1, .inl (a1, 2048, .inl (fun _ => 0))), (q2, .inl (a1, 3, .inl (fun _ => 0))), (q3, .inl (a1, 3, .inl (fun _ => 0))), (q4, .inl (a1, 16, .inl (fun _ => 0))), (q5, .inl (a1, 16, .inl (fun _ => 0))), (q6, .inl (a1, 16, .inl (fun _ => 0))), (q7, .inl (a1, 16, .inl (fun _ => 0))), (q8, .inl (a1, 16, .inl (fun _ => 0))), (q9, .inl (a1, 4, .inl (fun _ => 0)))] H := hP
  have hD : va_D A [(h0, .inr (1, [.ref q1, .int 0, .ref q2, .ref q3, .int 0, .ref q4, .ref q5, .ref q6, .ref q7, .ref q8, .ref q9, .int (-1), .int 0, .int 0])), (q1, .inl (a1, 2048, .inl (fun _ => 0))), (q2, .inl (a1, 3, .inl (fun _ => 0))), (q3, .inl (a1, 3, .inl (fun _ => 0))), (q4, .inl (a1, 16, .inl (fun _ => 0))), (q5, .inl (a1, 16, .inl (fun _ => 0))), (q6, .inl (a1, 16, .inl (fun _ => 0))), (q7, .inl (a1, 16, .inl (fun _ => 0))), (q8, .inl (a1, 16, .inl (fun _ => 0))), (q9, .inl (a1, 4, .inl (fun _ => 0)))] := hD
  have mid : ∀ (K : Nat) (v : Int32), v = nI K → 4 ≤ K → K ≤ 128 → x_n p0 = K * 16 → W p l e (headSpec wsX1_init ({ frames := 1, cells := 9, slots := 2138, locals := 23 })).room s m ([.ref h0, .int p0] : List Value).toArray below meth c H locs 9 2138 (MQ below (va_Qv (fun u : (Nat → Nat) × ClassId => u.1 0 = h0) (m_atI dC dI (x_n p0) A) A) ([.ref h0, .int p0] : List Value).toArray s 9 2138 A) (F0 m 100 ls [.int v, .int 16, .ref h0]) := by
    intro K v ev hK4 hK8 en
    refine lv_imul hx hb dX1_init_100 ?_
    rw [show (16 : Int32) * v = nI (x_n p0) by rw [ev, en, show (16 : Int32) = nI 16 from rfl, pk_mul, Nat.mul_comm]]
    refine va_putF (D := (dC, dI)) (ci := 1) (v := .int (nI (x_n p0))) (ty := .int) (C := RX1) (T := TX1) (N := 14) hx hb hts inbX1 tyX1 tyX1_ok nmX1 hown hK hP hD hS 0 rfl rfl 1 (by decide) (hts _ bX1_1) (fun _ h9 => h9) rfl hin rfl (by decide +kernel) rfl rfl (Nat.le_of_ble_eq_true rfl) dX1_init_101 (fun H locs hP hD hS => ?_)
    have hP : va_P (dC, dI) vwCl [(h0, .inr (1, [.ref q1, .int (nI (x_n p0)), .ref q2, .ref q3, .int 0, .ref q4, .ref q5, .ref q6, .ref q7, .ref q8, .ref q9, .int (-1), .int 0, .int 0])), (q1, .inl (a1, 2048, .inl (fun _ => 0))), (q2, .inl (a1, 3, .inl (fun _ => 0))), (q3, .inl (a1, 3, .inl (fun _ => 0))), (q4, .inl (a1, 16, .inl (fun _ => 0))), (q5, .inl (a1, 16, .inl (fun _ => 0))), (q6, .inl (a1, 16, .inl (fun _ => 0))), (q7, .inl (a1, 16, .inl (fun _ => 0))), (q8, .inl (a1, 16, .inl (fun _ => 0))), (q9, .inl (a1, 4, .inl (fun _ => 0)))] H := hP
    have hD : va_D A [(h0, .inr (1, [.ref q1, .int (nI (x_n p0)), .ref q2, .ref q3, .int 0, .ref q4, .ref q5, .ref q6, .ref q7, .ref q8, .ref q9, .int (-1), .int 0, .int 0])), (q1, .inl (a1, 2048, .inl (fun _ => 0))), (q2, .inl (a1, 3, .inl (fun _ => 0))), (q3, .inl (a1, 3, .inl (fun _ => 0))), (q4, .inl (a1, 16, .inl (fun _ => 0))), (q5, .inl (a1, 16, .inl (fun _ => 0))), (q6, .inl (a1, 16, .inl (fun _ => 0))), (q7, .inl (a1, 16, .inl (fun _ => 0))), (q8, .inl (a1, 16, .inl (fun _ => 0))), (q9, .inl (a1, 4, .inl (fun _ => 0)))] := hD
    exact tail (fun k => ([h0, q1, q2, q3, q4, q5, q6, q7, q8, q9] : List Nat).getD k 0) a1 (x_n p0) H locs ls rfl rfl hK hP hD hS hl
  refine lv_aload_n hx hb dX1_init_79 rfl (lv_at hl 0 rfl) ?_
  refine lv_bipush (v := 16) hx hb dX1_init_80 (by decide) ?_
  refine lv_iload_n hx hb dX1_init_82 rfl (lv_at hl 1 rfl) ?_
  refine lv_iconst (v := 4) hx hb dX1_init_83 (by decide) ?_
  refine lv_icmp_lt (tgt := 98) hx hb dX1_init_84 (by decide) (fun c_1 => ?_) (fun c_1 => ?_)
  · refine lv_bipush (v := 32) hx hb dX1_init_98 (by decide) ?_
    exact mid 32 32 rfl (by omega) (by omega) (x_n_of (K := 32) (if_pos c_1) (by omega))
  · refine lv_iload_n hx hb dX1_init_87 rfl (lv_at hl 1 rfl) ?_
    refine lv_sipush (v := 128) hx hb dX1_init_88 (by decide) ?_
    refine lv_icmp_gt (tgt := 98) hx hb dX1_init_91 (by decide) (fun c_2 => ?_) (fun c_2 => ?_)
    · refine lv_bipush (v := 32) hx hb dX1_init_98 (by decide) ?_
      exact mid 32 32 rfl (by omega) (by omega) (x_n_of (K := 32) ((if_neg c_1).trans (if_pos c_2)) (by omega))
    · refine lv_iload_n hx hb dX1_init_94 rfl (lv_at hl 1 rfl) ?_
      refine lv_goto (tgt := 100) hx hb dX1_init_95 (by decide) ?_
      obtain ⟨K, ek, hk4, hk8⟩ := x_pages c_1 c_2
      exact mid K p0 ek hk4 hk8 (x_n_of ((if_neg c_1).trans ((if_neg c_2).trans ek)) hk8)
