/-! THE CLAIM OUT OF ONE WALK OF THE LAW'S BODY. Your part is whole_start (and what it stands on); all else here is the same for every law, but numbers. -/
def R_law : String := "KeptPagesLaw"
def lw_P (b : Addr) (xs : List Int32) (args : Array Value) (s : State) : Prop := args = #[.ref b] ∧ s.IntsAt b xs ∧ xs.length ≤ 2561 ∧ (Jvm.Cond.and given_1 narrow_1).before args s = true
def lw_Q (_ : Array Value) (s : State) (o : Outcome) (t : State) : Prop := o = .returned (some (.int 1)) ∧ Framed s o t [] 600000 7302250
def lw_Z (below : List Frame) (a : Array Value) (s : State) : State → Prop := fun t => ∃ o, t.status = .running ∧ Ended t below o ∧ lw_Q a s o t
/-- the law's own end, with 1 on the stack, nothing written that was there before, its room as the claim has it -/
theorem lw_ret {p : Program} {l : Launch} {e : Env} {s : State} {m : MethodId} {below : List Frame} {meth : Method} {c : Code} {b : Nat} (hx : p.tables.exec = Jvm.exec) (hb : c.code = code) (hr : meth.sig.returnType = ret) (hlocks : meth.locks = false) {pc : Nat} {H : Heap} {ls : Array Slot} (hdg : decode code pc = .ok (.ireturn, 1)) : W p l e room_1 s m #[Value.ref b] below meth c H [] 600000 7302250 (lw_Z below #[Value.ref b] s) (F0 m pc ls [.int 1]) := by
  intro T hT X
  obtain ⟨fs, hret, hrun, hended, hW, hframe⟩ := X.leave (v := some (.int 1)) (hlocks := hlocks) (fun h => by rw [hr] at h; cases h)
  have hmeth' : T.vm.method? m = some meth := X.method'
  refine ⟨T.setFrames fs, ?_, .returned (some (.int 1)), hrun, hended, rfl, ⟨_, rfl⟩, hW, hframe⟩
  jvm_step X.here [X.here.top, hx, hb, hdg, hmeth', hr, ret, narrow_b1]
  (try refine ⟨rfl, ?_⟩); (try refine ⟨rfl, ?_⟩)
  first | (intro acts; rw [hret _ acts rfl rfl rfl]) | rw [hret _ _ rfl rfl rfl]
  exact Steps.refl _
/-- what holds at the law's entry: the machine, the code, the tables' words (any of lw_tbl by 'hts w (by decide +kernel)'), the script of L ints xs at the cell b, what the Statement gives of the start (any of its parts by flat_of_before) -/
def lw_At (p : Program) (s : State) (m : MethodId) (meth : Method) (c : Code) (b L : Nat) (xs : Nat → Int32) : Prop :=
  p.tables.exec = Jvm.exec ∧ c.code = code ∧ meth.sig.returnType = ret ∧ c.maxLocals = 4 ∧ s.vm.findClass R_law = some m.cls ∧ (∀ w ∈ lw_tbl, w.before #[Value.ref b] s = true) ∧ va_X b L xs s s.heap ∧ b < s.heap.size ∧ meth.locks = false ∧ (Jvm.Cond.and given_1 narrow_1).before #[Value.ref b] s = true
theorem lw_mw : ∀ j, j < 16 → Cond.eq (.elem (.static "KeptPages" "MAY_WRITE" "[I") (.int (Int32.ofNat j))) (.int (x_mw j)) ∈ flatC (Jvm.Cond.and given_1 narrow_1) := by decide +kernel
theorem lw_mr : ∀ j, j < 16 → Cond.eq (.elem (.static "KeptPages" "MAY_READ" "[I") (.int (Int32.ofNat j))) (.int (x_mr j)) ∈ flatC (Jvm.Cond.and given_1 narrow_1) := by decide +kernel
theorem lw_lw : Cond.laysStatic RX0 "MAY_WRITE" "[I" ∈ lw_tbl := by decide +kernel
theorem lw_lr : Cond.laysStatic RX0 "MAY_READ" "[I" ∈ lw_tbl := by decide +kernel
theorem lw_li : Cond.initialized RX0 ∈ lw_tbl := by decide +kernel
theorem lw_ST {s : State} {b : Nat} (hts : ∀ w ∈ lw_tbl, w.before #[Value.ref b] s = true) (hgv : (Jvm.Cond.and given_1 narrow_1).before #[Value.ref b] s = true) : ∃ tw tr : Nat, x_ST tw tr (fun q => s.heap.size ≤ q) s s.heap := by
  have hs := flat_of_before _ hgv
  have hA : ∀ a : Nat, a < s.heap.size → ¬ (fun q => s.heap.size ≤ q) a := fun a h => Nat.not_le.mpr h
  obtain ⟨tw, e1, T1⟩ := va_Tof (tm := .static "KeptPages" "MAY_WRITE" "[I") (ty := .int) (N := 16) (f := fun j => .int (x_mw j)) (A := fun q => s.heap.size ≤ q) (by decide) (hs _ (by decide +kernel)) (va_eqt (z := 16) (hs _ (by decide +kernel))) (fun j hj => va_eqt (hs _ (lw_mw j hj))) hA
  obtain ⟨tr, e2, T2⟩ := va_Tof (tm := .static "KeptPages" "MAY_READ" "[I") (ty := .int) (N := 16) (f := fun j => .int (x_mr j)) (A := fun q => s.heap.size ≤ q) (by decide) (hs _ (by decide +kernel)) (va_eqt (z := 16) (hs _ (by decide +kernel))) (fun j hj => va_eqt (hs _ (lw_mr j hj))) hA
  exact ⟨tw, tr, va_Zref (C := RX0) (hts _ lw_lw) (hts _ lw_li) e1 hA, T1, va_Zref (C := RX0) (hts _ lw_lr) (hts _ lw_li) e2 hA, T2⟩
abbrev lw_ws (h : Nat → Nat) (cB cI : ClassId) (g : Nat → Nat) (cM : ClassId) (n : Nat) (σ : XS) (μ : MS) : va_W := x_ws h cB cI n σ ++ m_ws g cM n μ
abbrev lw_tys (cB cI cM : ClassId) : List (ClassId × FieldType) := [(cB, .byte), (cI, .int), (cM, .int)]
abbrev lw_A (s : State) : Nat → Prop := fun q => s.heap.size ≤ q
section LW
variable {dC : Nat → ClassId} {dI : Nat → Nat → Nat} {h g : Nat → Nat} {cB cI cM : ClassId} {n : Nat} {σ : XS} {μ : MS} {s : State} {H : Heap} {A : Nat → Prop} {locs : List Loc}
variable {p : Program} {l : Launch} {e : Env} {R : Room} {m : MethodId} {args : Array Value} {below : List Frame} {meth : Method} {c : Code} {cells slots : Nat} {Q : State → Prop} {pc : Nat} {ls : Array Slot} {rest st0 : List Value} {a : Array Value}
theorem lw_xP (hP : va_P (dC, dI) vwCl (lw_ws h cB cI g cM n σ μ) H) : va_P (dC, dI) vwCl (x_ws h cB cI n σ) H := hP.sub [0, 1, 2, 3, 4, 5, 6, 7] rfl
theorem lw_mP (hP : va_P (dC, dI) vwCl (lw_ws h cB cI g cM n σ μ) H) : va_P (dC, dI) vwCl (m_ws g cM n μ) H := hP.sub [8, 9, 10, 11, 12, 13, 14, 15, 16, 17] rfl
theorem lw_xD (hD : va_D A (lw_ws h cB cI g cM n σ μ)) : va_D A (x_ws h cB cI n σ) := hD.sub [0, 1, 2, 3, 4, 5, 6, 7] (by decide) rfl
theorem lw_mD (hD : va_D A (lw_ws h cB cI g cM n σ μ)) : va_D A (m_ws g cM n μ) := hD.sub [8, 9, 10, 11, 12, 13, 14, 15, 16, 17] (by decide) rfl
theorem lw_xK (hK : va_K (dC, dI) vwCl (lw_tys cB cI cM) s) : va_K (dC, dI) vwCl (x_tys cB cI) s := hK.sub [0, 1] rfl
theorem lw_mK (hK : va_K (dC, dI) vwCl (lw_tys cB cI cM) s) : va_K (dC, dI) vwCl (m_tys cM) s := hK.sub [2] rfl
theorem lw_xcalli {f : Int32 × XS} (hr : va_Run p l e R s m args below meth c H locs cells slots 0 0 (F0 m pc ls st0) rest (va_Qi (fun (r : Int32) (u : XS) => f = (r, u)) (x_at dC dI h cB cI n (va_A (x_ws h cB cI n σ) H.size)) (va_A (x_ws h cB cI n σ) H.size) a) (va_A (x_ws h cB cI n σ) H.size)) (hP : va_P (dC, dI) vwCl (lw_ws h cB cI g cM n σ μ) H) (hD : va_D A (lw_ws h cB cI g cM n σ μ)) (hS : va_S A s.heap H locs) (hA : ∀ q : Nat, s.heap.size ≤ q → A q)
    (kk : ∀ (r : Int32) (u : XS) (H1 : Heap) (locs1 : List Loc), f = (r, u) → va_P (dC, dI) vwCl (lw_ws h cB cI g cM n u μ) H1 → va_D A (lw_ws h cB cI g cM n u μ) → va_S A s.heap H1 locs1 → W p l e R s m args below meth c H1 locs1 cells slots Q (F0 m (pc + 3) ls (.int r :: rest))) : W p l e R s m args below meth c H locs cells slots Q (F0 m pc ls st0) := by
  have hF := va_free (wc := (x_ws h cB cI n σ)) hD hS hA [0, 1, 2, 3, 4, 5, 6, 7] rfl
  refine va_calli hr hS (fun q _ z => hF q z) hF (fun r u t H1 locs ht hvm hw hB hz1 hk1 hS => ?_)
  obtain ⟨hP1, hK1, hD1⟩ := hB
  rw [ht] at hP1
  obtain ⟨hP2, hD2⟩ := va_join (wr := m_ws g cM n μ) (w1 := x_ws h cB cI n u) hP hD [0, 1, 2, 3, 4, 5, 6, 7] [8, 9, 10, 11, 12, 13, 14, 15, 16, 17] rfl rfl (by decide) (by decide) hk1 hF hP1 hD1
  exact kk r u H1 locs hw (hP2.sub [10, 11, 12, 13, 14, 15, 16, 17, 0, 1, 2, 3, 4, 5, 6, 7, 8, 9] rfl) (hD2.sub [10, 11, 12, 13, 14, 15, 16, 17, 0, 1, 2, 3, 4, 5, 6, 7, 8, 9] (by decide) rfl) hS
theorem lw_xcalll {f : Int64 × XS} (hr : va_Run p l e R s m args below meth c H locs cells slots 0 0 (F0 m pc ls st0) rest (va_Ql (fun (r : Int64) (u : XS) => f = (r, u)) (x_at dC dI h cB cI n (va_A (x_ws h cB cI n σ) H.size)) (va_A (x_ws h cB cI n σ) H.size) a) (va_A (x_ws h cB cI n σ) H.size)) (hP : va_P (dC, dI) vwCl (lw_ws h cB cI g cM n σ μ) H) (hD : va_D A (lw_ws h cB cI g cM n σ μ)) (hS : va_S A s.heap H locs) (hA : ∀ q : Nat, s.heap.size ≤ q → A q)
    (kk : ∀ (r : Int64) (u : XS) (H1 : Heap) (locs1 : List Loc), f = (r, u) → va_P (dC, dI) vwCl (lw_ws h cB cI g cM n u μ) H1 → va_D A (lw_ws h cB cI g cM n u μ) → va_S A s.heap H1 locs1 → W p l e R s m args below meth c H1 locs1 cells slots Q (F0 m (pc + 3) ls (.long r :: rest))) : W p l e R s m args below meth c H locs cells slots Q (F0 m pc ls st0) := by
  have hF := va_free (wc := (x_ws h cB cI n σ)) hD hS hA [0, 1, 2, 3, 4, 5, 6, 7] rfl
  refine va_calll hr hS (fun q _ z => hF q z) hF (fun r u t H1 locs ht hvm hw hB hz1 hk1 hS => ?_)
  obtain ⟨hP1, hK1, hD1⟩ := hB
  rw [ht] at hP1
  obtain ⟨hP2, hD2⟩ := va_join (wr := m_ws g cM n μ) (w1 := x_ws h cB cI n u) hP hD [0, 1, 2, 3, 4, 5, 6, 7] [8, 9, 10, 11, 12, 13, 14, 15, 16, 17] rfl rfl (by decide) (by decide) hk1 hF hP1 hD1
  exact kk r u H1 locs hw (hP2.sub [10, 11, 12, 13, 14, 15, 16, 17, 0, 1, 2, 3, 4, 5, 6, 7, 8, 9] rfl) (hD2.sub [10, 11, 12, 13, 14, 15, 16, 17, 0, 1, 2, 3, 4, 5, 6, 7, 8, 9] (by decide) rfl) hS
theorem lw_xcallv {f : XS} (hr : va_Run p l e R s m args below meth c H locs cells slots 0 0 (F0 m pc ls st0) rest (va_Qv (fun (u : XS) => f = u) (x_at dC dI h cB cI n (va_A (x_ws h cB cI n σ) H.size)) (va_A (x_ws h cB cI n σ) H.size) a) (va_A (x_ws h cB cI n σ) H.size)) (hP : va_P (dC, dI) vwCl (lw_ws h cB cI g cM n σ μ) H) (hD : va_D A (lw_ws h cB cI g cM n σ μ)) (hS : va_S A s.heap H locs) (hA : ∀ q : Nat, s.heap.size ≤ q → A q)
    (kk : ∀ (u : XS) (H1 : Heap) (locs1 : List Loc), f = u → va_P (dC, dI) vwCl (lw_ws h cB cI g cM n u μ) H1 → va_D A (lw_ws h cB cI g cM n u μ) → va_S A s.heap H1 locs1 → W p l e R s m args below meth c H1 locs1 cells slots Q (F0 m (pc + 3) ls (rest))) : W p l e R s m args below meth c H locs cells slots Q (F0 m pc ls st0) := by
  have hF := va_free (wc := (x_ws h cB cI n σ)) hD hS hA [0, 1, 2, 3, 4, 5, 6, 7] rfl
  refine va_callv hr hS (fun q _ z => hF q z) hF (fun u t H1 locs ht hvm hw hB hz1 hk1 hS => ?_)
  obtain ⟨hP1, hK1, hD1⟩ := hB
  rw [ht] at hP1
  obtain ⟨hP2, hD2⟩ := va_join (wr := m_ws g cM n μ) (w1 := x_ws h cB cI n u) hP hD [0, 1, 2, 3, 4, 5, 6, 7] [8, 9, 10, 11, 12, 13, 14, 15, 16, 17] rfl rfl (by decide) (by decide) hk1 hF hP1 hD1
  exact kk u H1 locs hw (hP2.sub [10, 11, 12, 13, 14, 15, 16, 17, 0, 1, 2, 3, 4, 5, 6, 7, 8, 9] rfl) (hD2.sub [10, 11, 12, 13, 14, 15, 16, 17, 0, 1, 2, 3, 4, 5, 6, 7, 8, 9] (by decide) rfl) hS
theorem lw_mcalli {f : Int32 × MS} (hr : va_Run p l e R s m args below meth c H locs cells slots 0 0 (F0 m pc ls st0) rest (va_Qi (fun (r : Int32) (u : MS) => f = (r, u)) (m_at dC dI g cM n (va_A (m_ws g cM n μ) H.size)) (va_A (m_ws g cM n μ) H.size) a) (va_A (m_ws g cM n μ) H.size)) (hP : va_P (dC, dI) vwCl (lw_ws h cB cI g cM n σ μ) H) (hD : va_D A (lw_ws h cB cI g cM n σ μ)) (hS : va_S A s.heap H locs) (hA : ∀ q : Nat, s.heap.size ≤ q → A q)
    (kk : ∀ (r : Int32) (u : MS) (H1 : Heap) (locs1 : List Loc), f = (r, u) → va_P (dC, dI) vwCl (lw_ws h cB cI g cM n σ u) H1 → va_D A (lw_ws h cB cI g cM n σ u) → va_S A s.heap H1 locs1 → W p l e R s m args below meth c H1 locs1 cells slots Q (F0 m (pc + 3) ls (.int r :: rest))) : W p l e R s m args below meth c H locs cells slots Q (F0 m pc ls st0) := by
  have hF := va_free (wc := (m_ws g cM n μ)) hD hS hA [8, 9, 10, 11, 12, 13, 14, 15, 16, 17] rfl
  refine va_calli hr hS (fun q _ z => hF q z) hF (fun r u t H1 locs ht hvm hw hB hz1 hk1 hS => ?_)
  obtain ⟨hP1, hK1, hD1⟩ := hB
  rw [ht] at hP1
  obtain ⟨hP2, hD2⟩ := va_join (wr := x_ws h cB cI n σ) (w1 := m_ws g cM n u) hP hD [8, 9, 10, 11, 12, 13, 14, 15, 16, 17] [0, 1, 2, 3, 4, 5, 6, 7] rfl rfl (by decide) (by decide) hk1 hF hP1 hD1
  exact kk r u H1 locs hw (hP2.sub [0, 1, 2, 3, 4, 5, 6, 7, 8, 9, 10, 11, 12, 13, 14, 15, 16, 17] rfl) (hD2.sub [0, 1, 2, 3, 4, 5, 6, 7, 8, 9, 10, 11, 12, 13, 14, 15, 16, 17] (by decide) rfl) hS
theorem lw_mcalll {f : Int64 × MS} (hr : va_Run p l e R s m args below meth c H locs cells slots 0 0 (F0 m pc ls st0) rest (va_Ql (fun (r : Int64) (u : MS) => f = (r, u)) (m_at dC dI g cM n (va_A (m_ws g cM n μ) H.size)) (va_A (m_ws g cM n μ) H.size) a) (va_A (m_ws g cM n μ) H.size)) (hP : va_P (dC, dI) vwCl (lw_ws h cB cI g cM n σ μ) H) (hD : va_D A (lw_ws h cB cI g cM n σ μ)) (hS : va_S A s.heap H locs) (hA : ∀ q : Nat, s.heap.size ≤ q → A q)
    (kk : ∀ (r : Int64) (u : MS) (H1 : Heap) (locs1 : List Loc), f = (r, u) → va_P (dC, dI) vwCl (lw_ws h cB cI g cM n σ u) H1 → va_D A (lw_ws h cB cI g cM n σ u) → va_S A s.heap H1 locs1 → W p l e R s m args below meth c H1 locs1 cells slots Q (F0 m (pc + 3) ls (.long r :: rest))) : W p l e R s m args below meth c H locs cells slots Q (F0 m pc ls st0) := by
  have hF := va_free (wc := (m_ws g cM n μ)) hD hS hA [8, 9, 10, 11, 12, 13, 14, 15, 16, 17] rfl
  refine va_calll hr hS (fun q _ z => hF q z) hF (fun r u t H1 locs ht hvm hw hB hz1 hk1 hS => ?_)
  obtain ⟨hP1, hK1, hD1⟩ := hB
  rw [ht] at hP1
  obtain ⟨hP2, hD2⟩ := va_join (wr := x_ws h cB cI n σ) (w1 := m_ws g cM n u) hP hD [8, 9, 10, 11, 12, 13, 14, 15, 16, 17] [0, 1, 2, 3, 4, 5, 6, 7] rfl rfl (by decide) (by decide) hk1 hF hP1 hD1
  exact kk r u H1 locs hw (hP2.sub [0, 1, 2, 3, 4, 5, 6, 7, 8, 9, 10, 11, 12, 13, 14, 15, 16, 17] rfl) (hD2.sub [0, 1, 2, 3, 4, 5, 6, 7, 8, 9, 10, 11, 12, 13, 14, 15, 16, 17] (by decide) rfl) hS
theorem lw_mcallv {f : MS} (hr : va_Run p l e R s m args below meth c H locs cells slots 0 0 (F0 m pc ls st0) rest (va_Qv (fun (u : MS) => f = u) (m_at dC dI g cM n (va_A (m_ws g cM n μ) H.size)) (va_A (m_ws g cM n μ) H.size) a) (va_A (m_ws g cM n μ) H.size)) (hP : va_P (dC, dI) vwCl (lw_ws h cB cI g cM n σ μ) H) (hD : va_D A (lw_ws h cB cI g cM n σ μ)) (hS : va_S A s.heap H locs) (hA : ∀ q : Nat, s.heap.size ≤ q → A q)
    (kk : ∀ (u : MS) (H1 : Heap) (locs1 : List Loc), f = u → va_P (dC, dI) vwCl (lw_ws h cB cI g cM n σ u) H1 → va_D A (lw_ws h cB cI g cM n σ u) → va_S A s.heap H1 locs1 → W p l e R s m args below meth c H1 locs1 cells slots Q (F0 m (pc + 3) ls (rest))) : W p l e R s m args below meth c H locs cells slots Q (F0 m pc ls st0) := by
  have hF := va_free (wc := (m_ws g cM n μ)) hD hS hA [8, 9, 10, 11, 12, 13, 14, 15, 16, 17] rfl
  refine va_callv hr hS (fun q _ z => hF q z) hF (fun u t H1 locs ht hvm hw hB hz1 hk1 hS => ?_)
  obtain ⟨hP1, hK1, hD1⟩ := hB
  rw [ht] at hP1
  obtain ⟨hP2, hD2⟩ := va_join (wr := x_ws h cB cI n σ) (w1 := m_ws g cM n u) hP hD [8, 9, 10, 11, 12, 13, 14, 15, 16, 17] [0, 1, 2, 3, 4, 5, 6, 7] rfl rfl (by decide) (by decide) hk1 hF hP1 hD1
  exact kk u H1 locs hw (hP2.sub [0, 1, 2, 3, 4, 5, 6, 7, 8, 9, 10, 11, 12, 13, 14, 15, 16, 17] rfl) (hD2.sub [0, 1, 2, 3, 4, 5, 6, 7, 8, 9, 10, 11, 12, 13, 14, 15, 16, 17] (by decide) rfl) hS
end LW
theorem lg_eq {x y : Int64} (h : x = y) : lg_cmp x y = 0 := by subst h; unfold lg_cmp; rw [if_neg (fun h => Int64.lt_irrefl h), if_pos rfl]
theorem lw_fit {L i : Nat} (hL : L ≤ 2561) (hi : i ≤ 2600) (c : ¬ (Int32.ofNat L - 5) < nI i) : i + 5 ≤ L := by
  have h5 : (nI L - nI 5).toInt = (L : Int) - (5 : Nat) := pk_sub_toInt (a := L) (b := 5) (by omega) (by decide)
  have c2 : ¬ (nI L - nI 5) < nI i := c
  rw [Int32.lt_iff_toInt_lt, h5, nI_toInt (by omega)] at c2
  omega
theorem lw_ix {L j k : Nat} {i : Int32} (ei : i = nI j) (hL : L ≤ 2561) (h : j + 5 ≤ L) (hk : k < 5) : vp_in (i + nI k) L := by rw [ei, nI_add]; exact vp_in_nI (by omega) (by omega)
theorem lw_ix0 {L j : Nat} {i : Int32} (ei : i = nI j) (hL : L ≤ 2561) (h : j + 5 ≤ L) : vp_in i L := by rw [ei]; exact vp_in_nI (by omega) (by omega)
def lw_cell (L : Nat) (xs : Nat → Int32) (k : Int32) : Int32 := if (Int32.ofNat L) ≤ k then 0 else xs k.toNatClampNeg
set_option maxHeartbeats 4000000 in
set_option maxRecDepth 100000 in
theorem c_L_cell (l : Launch) (b L : Nat) (xs : Nat → Int32) (hL : L ≤ 2561) (k : Int32) (hk : ¬ k < 0) : Met l yL_cell wsL_cell ({ frames := 0, cells := 0, slots := 0, locals := 0 }) (va_Pc [.ref b, .int k] (fun U => va_X b L xs U U.heap ∧ b < U.heap.size)) (vp_Si (fun r => lw_cell L xs k = r)) 0 0 (fun _ => False) := by
  refine Met.ofW (cc := cL_cell) (maxL := 2) (ret := (some .int)) (by decide) rfl ?_
  intro p e s m args below meth c s₁ B hml hv
  obtain ⟨rfl, hX, hbl⟩ := hv
  have hx := B.exec
  have hb := B.bytes
  have hr := B.returns
  have hlocks := B.notSynchronized
  have hS : va_S (fun _ => False) s.heap s.heap [] := va_S.rf
  have hl := lv_entry ([.ref b, .int k]) (n := 2) (Nat.le_of_ble_eq_true rfl)
  rw [lg_entry_eq]
  generalize (lg_sl ([.ref b, .int k]) ++ List.replicate (2 - (lg_sl ([.ref b, .int k])).length) Slot.unset).toArray = ls at hl ⊢
  have hl : lv_has ls 2 [(0, .ref b), (1, .int k)] := hl
  refine lv_iload_n hx hb dL_cell_0 rfl (lv_at hl 1 rfl) ?_
  refine lv_aload_n hx hb dL_cell_1 rfl (lv_at hl 0 rfl) ?_
  refine va_slen hx hb hX hbl (A := fun _ => False) (fun z => z) hS dL_cell_2 ?_
  refine lv_icmp_ge (tgt := 12) hx hb dL_cell_3 (by decide) (fun c_1 => ?_) (fun c_1 => ?_)
  · refine lv_iconst (v := 0) hx hb dL_cell_12 (by decide) ?_
    exact W.iret (v := 0) hx hb hr (fun t ht _ => ⟨0, rfl, if_pos c_1, ht⟩) t_nil dL_cell_13
  · refine lv_aload_n hx hb dL_cell_6 rfl (lv_at hl 0 rfl) ?_
    refine lv_iload_n hx hb dL_cell_7 rfl (lv_at hl 1 rfl) ?_
    have hin : vp_in k L := by
      obtain ⟨j, hj, rfl⟩ := nI_of hk
      refine vp_in_nI ?_ (by omega)
      rcases Nat.lt_or_ge j L with q | q
      · exact q
      · exact absurd (nI_le q hj) c_1
    refine va_sld hx hb hX hbl (A := fun _ => False) (fun z => z) hS hin dL_cell_8 ?_
    refine lv_goto (tgt := 13) hx hb dL_cell_9 (by decide) ?_
    exact W.iret (v := xs k.toNatClampNeg) hx hb hr (fun t ht _ => ⟨xs k.toNatClampNeg, rfl, if_neg c_1, ht⟩) t_nil dL_cell_13
