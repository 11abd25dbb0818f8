def j_fill_l1 (N : Nat) (v : Int32) : Nat → Int32 → Int32 → (Nat → Int32) → (Nat → Int32)
  | 0, _, _, τ => τ
  | f + 1, i, ln, τ =>
    if ln ≤ i then
      τ
    else
      j_fill_l1 N v f (i + 1) ln (j_sA τ (upd (j_a τ) ((i).toNatClampNeg) v))
def j_fill (N : Nat) (σ : (Nat → Int32)) (v : Int32) : (Nat → Int32) :=
  j_fill_l1 N v 1000 0 (nI N) σ
abbrev q_j_fill (dC : Nat → ClassId) (dI : Nat → Nat → Nat) (h : Nat → Nat) (cI : ClassId) (N : Nat) (σ : (Nat → Int32)) (v : Int32) (A : Nat → Prop) : Array Value → State → Outcome → State → Prop := va_Qv (fun u : (Nat → Int32) => j_fill N σ v = u) (j_at dC dI h cI N A) A
def x_regionOf (a : Int32) : Int32 :=
  ((jushr a 14) &&& 3)
def x_pageOf (a : Int32) : Int32 :=
  ((jushr a 4) &&& 1023)
def x_placeInPage (a : Int32) : Int32 :=
  (a &&& 15)
def x_slotOf (a : Int32) : Int32 :=
  if (x_regionOf a) < 2 then
    ((x_pageOf a) - (x_pageOf a) / 8 * 8)
  else
    ((8 : Int32) + ((x_pageOf a) - (x_pageOf a) / 8 * 8))
def x_isValid (v : Int32) : Int32 :=
  if (v &&& (-2147483648)) = 0 then
    0
  else
    1
def x_physical (v : Int32) (a : Int32) : Int32 :=
  (((v &&& 4095) * 16) + (x_placeInPage a))
def x_isCount (k : Int32) : Int32 :=
  if k = 1 then
    1
  else
    if k = 2 then
      1
    else
      if k = 4 then
        1
      else
        0
def x_access (k : Int32) (b : Int32) : Int32 :=
  if b = 0 then
    ((((-1) : Int32) - k) - 0)
  else
    ((((-1) : Int32) - k) - 4)
def x_missing (k : Int32) (b : Int32) : Int32 :=
  if b = 0 then
    ((((-11) : Int32) - k) - 0)
  else
    ((((-11) : Int32) - k) - 4)
def x_isAccess (k : Int32) : Int32 :=
  if ((-1) : Int32) < k then
    0
  else
    if k ≤ (-11) then
      0
    else
      1
def x_gives (v : Int32) (md : Int32) (b : Int32) : Int32 :=
  if b = 0 then
    if (x_mr (((jushr v 27) &&& 15)).toNatClampNeg) < (md &&& 3) then
      0
    else
      1
  else
    if (x_mw (((jushr v 27) &&& 15)).toNatClampNeg) < (md &&& 3) then
      0
    else
      1
def x_counts (n : Nat) (σ : XS) (k : Int32) (a : Int32) : Int32 :=
  if (x_kp σ (k).toNatClampNeg) = (a / 16) then
    1
  else
    0
def x_inside (n : Nat) (σ : XS) (rg : Int32) (g : Int32) : Int32 :=
  if rg < 3 then
    if rg = 1 then
      if g < (x_len σ (rg).toNatClampNeg) then
        0
      else
        1
    else
      if (x_len σ (rg).toNatClampNeg) ≤ g then
        0
      else
        1
  else
    0
def x_inMemory (n : Nat) (σ : XS) (a : Int32) (k : Int32) : Int32 :=
  if a < 0 then
    0
  else
    if ((nI n) - k) < a then
      0
    else
      1
def x_byteAt (n : Nat) (σ : XS) (a : Int32) : Int32 :=
  ((x_mem σ (a).toNatClampNeg) &&& 255)
def x_entryAt (n : Nat) (σ : XS) (a : Int32) : Int32 :=
  ((((x_byteAt n σ a) ||| ((x_byteAt n σ (a + 1)) <<< (8 &&& 31))) ||| ((x_byteAt n σ (a + 2)) <<< (16 &&& 31))) ||| ((x_byteAt n σ (a + 3)) <<< (24 &&& 31)))
def x_entryOf (n : Nat) (σ : XS) (a : Int32) : Int64 :=
  if (x_inMemory n σ a 4) = 0 then
    (-1)
  else
    ((((x_entryAt n σ a)).toInt64) &&& 4294967295)
def x_kept (n : Nat) (σ : XS) (i : Int32) (k : Int32) : Int64 :=
  if i < 0 then
    (-1)
  else
    if (16 : Int32) ≤ i then
      (-1)
    else
      if k < 0 then
        (-1)
      else
        if k ≤ 2 then
          if (x_kp σ (i).toNatClampNeg) = (-1) then
            if k = 0 then
              0
            else
              (-1)
          else
            if k = 0 then
              1
            else
              if k = 1 then
                ((((x_kp σ (i).toNatClampNeg) * 16)).toInt64)
              else
                ((((x_ke σ (i).toNatClampNeg)).toInt64) &&& 4294967295)
        else
          (-1)
def x_failed (n : Nat) (σ : XS)  : Int32 :=
  (x_fa σ)
def x_keepEntry (n : Nat) (σ : XS) (k : Int32) (a : Int32) (v : Int32) (q : Int32) : XS :=
  (x_sKpl (x_sKe (x_sKp σ (upd (x_kp σ) ((k).toNatClampNeg) (a / 16))) (upd (x_ke (x_sKp σ (upd (x_kp σ) ((k).toNatClampNeg) (a / 16)))) ((k).toNatClampNeg) v)) (upd (x_kpl (x_sKe (x_sKp σ (upd (x_kp σ) ((k).toNatClampNeg) (a / 16))) (upd (x_ke (x_sKp σ (upd (x_kp σ) ((k).toNatClampNeg) (a / 16)))) ((k).toNatClampNeg) v))) ((k).toNatClampNeg) q))
abbrev q_x_keepEntry (dC : Nat → ClassId) (dI : Nat → Nat → Nat) (h : Nat → Nat) (cB cI : ClassId) (n : Nat) (σ : XS) (k : Int32) (a : Int32) (v : Int32) (q : Int32) (A : Nat → Prop) : Array Value → State → Outcome → State → Prop := va_Qv (fun u : XS => x_keepEntry n σ k a v q = u) (x_at dC dI h cB cI n A) A
def x_markWritten (n : Nat) (σ : XS) (k : Int32) : XS :=
  if ((x_ke σ (k).toNatClampNeg) &&& 67108864) = 0 then
    (x_sMem (x_sKe σ (upd (x_ke σ) ((k).toNatClampNeg) ((x_ke σ (k).toNatClampNeg) ||| 67108864))) (upd (x_mem (x_sKe σ (upd (x_ke σ) ((k).toNatClampNeg) ((x_ke σ (k).toNatClampNeg) ||| 67108864)))) (((((x_kpl (x_sKe σ (upd (x_ke σ) ((k).toNatClampNeg) ((x_ke σ (k).toNatClampNeg) ||| 67108864))) (k).toNatClampNeg) + 4) - 1)).toNatClampNeg) (vp_nar .byte ((((x_mem (x_sKe σ (upd (x_ke σ) ((k).toNatClampNeg) ((x_ke σ (k).toNatClampNeg) ||| 67108864))) ((((x_kpl (x_sKe σ (upd (x_ke σ) ((k).toNatClampNeg) ((x_ke σ (k).toNatClampNeg) ||| 67108864))) (k).toNatClampNeg) + 4) - 1)).toNatClampNeg) ||| 4)).toInt8.toInt32))))
  else
    σ
abbrev q_x_markWritten (dC : Nat → ClassId) (dI : Nat → Nat → Nat) (h : Nat → Nat) (cB cI : ClassId) (n : Nat) (σ : XS) (k : Int32) (A : Nat → Prop) : Array Value → State → Outcome → State → Prop := va_Qv (fun u : XS => x_markWritten n σ k = u) (x_at dC dI h cB cI n A) A
def x_noteFault (n : Nat) (σ : XS) (k : Int32) (a : Int32) : XS :=
  if k = (-100) then
    σ
  else
    (x_sFa σ a)
abbrev q_x_noteFault (dC : Nat → ClassId) (dI : Nat → Nat → Nat) (h : Nat → Nat) (cB cI : ClassId) (n : Nat) (σ : XS) (k : Int32) (a : Int32) (A : Nat → Prop) : Array Value → State → Outcome → State → Prop := va_Qv (fun u : XS => x_noteFault n σ k a = u) (x_at dC dI h cB cI n A) A
def x_forget_l1 (n : Nat) (k : Int32) : Nat → Int32 → XS → XS
  | 0, _, τ => τ
  | f + 1, i, τ =>
    if k ≤ i then
      τ
    else
      x_forget_l1 n k f (i + 1) (x_sKp τ (upd (x_kp τ) ((i).toNatClampNeg) (-1)))
def x_forget (n : Nat) (σ : XS) (k : Int32) : XS :=
  x_forget_l1 n k 17 0 σ
abbrev q_x_forget (dC : Nat → ClassId) (dI : Nat → Nat → Nat) (h : Nat → Nat) (cB cI : ClassId) (n : Nat) (σ : XS) (k : Int32) (A : Nat → Prop) : Array Value → State → Outcome → State → Prop := va_Qv (fun u : XS => x_forget n σ k = u) (x_at dC dI h cB cI n A) A
def x_placeThroughS (n : Nat) (σ : XS) (a : Int32) (b : Int32) (kp : Int32) : Int32 × XS :=
  if (x_regionOf a) = 2 then
    if (x_inside n σ 2 (x_pageOf a)) = 0 then
      ((x_access 3 b), σ)
    else
      if (x_counts n σ (x_slotOf a) a) = 0 then
        if (x_inMemory n σ ((x_bas σ (2 : Int32).toNatClampNeg) + ((4 : Int32) * (x_pageOf a))) 4) = 0 then
          ((-100), σ)
        else
          if (x_isValid (x_entryAt n σ ((x_bas σ (2 : Int32).toNatClampNeg) + ((4 : Int32) * (x_pageOf a))))) = 0 then
            ((x_missing 2 b), σ)
          else
            if kp = 0 then
              ((x_physical (x_entryAt n σ ((x_bas σ (2 : Int32).toNatClampNeg) + ((4 : Int32) * (x_pageOf a)))) a), σ)
            else
              kv (x_keepEntry n σ (x_slotOf a) a (x_entryAt n σ ((x_bas σ (2 : Int32).toNatClampNeg) + ((4 : Int32) * (x_pageOf a)))) ((x_bas σ (2 : Int32).toNatClampNeg) + ((4 : Int32) * (x_pageOf a)))) (fun t_7 =>
              ((x_physical (x_entryAt n σ ((x_bas σ (2 : Int32).toNatClampNeg) + ((4 : Int32) * (x_pageOf a)))) a), t_7))
      else
        ((x_physical (x_ke σ ((x_slotOf a)).toNatClampNeg) a), σ)
  else
    ((x_access 3 b), σ)
abbrev q_x_placeThroughS (dC : Nat → ClassId) (dI : Nat → Nat → Nat) (h : Nat → Nat) (cB cI : ClassId) (n : Nat) (σ : XS) (a : Int32) (b : Int32) (kp : Int32) (A : Nat → Prop) : Array Value → State → Outcome → State → Prop := va_Qi (fun (r : Int32) (u : XS) => x_placeThroughS n σ a b kp = (r, u)) (x_at dC dI h cB cI n A) A
def x_placeOfEntry (n : Nat) (σ : XS) (a : Int32) (b : Int32) (kp : Int32) : Int32 × XS :=
  if (x_inside n σ (x_regionOf a) (x_pageOf a)) = 0 then
    ((x_access 1 b), σ)
  else
    if (x_regionOf a) = 2 then
      if (0 : Int32) ≤ ((x_bas σ ((x_regionOf a)).toNatClampNeg) + ((4 : Int32) * (x_pageOf a))) then
        if (x_inMemory n σ ((x_bas σ ((x_regionOf a)).toNatClampNeg) + ((4 : Int32) * (x_pageOf a))) 4) = 0 then
          ((-100), σ)
        else
          (((x_bas σ ((x_regionOf a)).toNatClampNeg) + ((4 : Int32) * (x_pageOf a))), σ)
      else
        (((x_bas σ ((x_regionOf a)).toNatClampNeg) + ((4 : Int32) * (x_pageOf a))), σ)
    else
      kb (x_placeThroughS n σ (((x_bas σ ((x_regionOf a)).toNatClampNeg) + ((4 : Int32) * (x_pageOf a))) &&& 65535) b kp) (fun r_5 t_3 =>
      if (0 : Int32) ≤ r_5 then
        if (x_inMemory n t_3 r_5 4) = 0 then
          ((-100), t_3)
        else
          (r_5, t_3)
      else
        (r_5, t_3))
abbrev q_x_placeOfEntry (dC : Nat → ClassId) (dI : Nat → Nat → Nat) (h : Nat → Nat) (cB cI : ClassId) (n : Nat) (σ : XS) (a : Int32) (b : Int32) (kp : Int32) (A : Nat → Prop) : Array Value → State → Outcome → State → Prop := va_Qi (fun (r : Int32) (u : XS) => x_placeOfEntry n σ a b kp = (r, u)) (x_at dC dI h cB cI n A) A
def x_translate (n : Nat) (σ : XS) (a : Int32) (md : Int32) (b : Int32) (kp : Int32) : Int32 × XS :=
  if (x_mp σ) = 0 then
    (a, σ)
  else
    if (x_counts n σ (x_slotOf a) a) = 0 then
      kb (x_placeOfEntry n σ a b kp) (fun r_5 t_3 =>
      if (0 : Int32) ≤ r_5 then
        if (x_gives (x_entryAt n t_3 r_5) md b) = 0 then
          ((x_access 0 b), t_3)
        else
          if (x_isValid (x_entryAt n t_3 r_5)) = 0 then
            ((x_missing 0 b), t_3)
          else
            if kp = 0 then
              ((x_physical (x_entryAt n t_3 r_5) a), t_3)
            else
              kv (x_keepEntry n t_3 (x_slotOf a) a (x_entryAt n t_3 r_5) r_5) (fun t_11 =>
              if b = 0 then
                ((x_physical (x_entryAt n t_3 r_5) a), t_11)
              else
                kv (x_markWritten n t_11 (x_slotOf a)) (fun t_14 =>
                ((x_physical (x_entryAt n t_3 r_5) a), t_14)))
      else
        (r_5, t_3))
    else
      if (0 : Int32) ≤ (x_kpl σ ((x_slotOf a)).toNatClampNeg) then
        if (x_gives (x_ke σ ((x_slotOf a)).toNatClampNeg) md b) = 0 then
          ((x_access 0 b), σ)
        else
          if (x_isValid (x_ke σ ((x_slotOf a)).toNatClampNeg)) = 0 then
            ((x_missing 0 b), σ)
          else
            if kp = 0 then
              ((x_physical (x_ke σ ((x_slotOf a)).toNatClampNeg) a), σ)
            else
              kv (x_keepEntry n σ (x_slotOf a) a (x_ke σ ((x_slotOf a)).toNatClampNeg) (x_kpl σ ((x_slotOf a)).toNatClampNeg)) (fun t_21 =>
              if b = 0 then
                ((x_physical (x_ke σ ((x_slotOf a)).toNatClampNeg) a), t_21)
              else
                kv (x_markWritten n t_21 (x_slotOf a)) (fun t_24 =>
                ((x_physical (x_ke σ ((x_slotOf a)).toNatClampNeg) a), t_24)))
      else
        ((x_kpl σ ((x_slotOf a)).toNatClampNeg), σ)
abbrev q_x_translate (dC : Nat → ClassId) (dI : Nat → Nat → Nat) (h : Nat → Nat) (cB cI : ClassId) (n : Nat) (σ : XS) (a : Int32) (md : Int32) (b : Int32) (kp : Int32) (A : Nat → Prop) : Array Value → State → Outcome → State → Prop := va_Qi (fun (r : Int32) (u : XS) => x_translate n σ a md b kp = (r, u)) (x_at dC dI h cB cI n A) A
def x_findPlaces_l2 (n : Nat) (a : Int32) (ct : Int32) (md : Int32) (b : Int32) : Nat → Int32 → XS → Int32 × XS
  | 0, _, τ => (0, τ)
  | f + 1, i, τ =>
    if ct ≤ i then
      (0, τ)
    else
      if (x_inMemory n τ (x_pl τ (i).toNatClampNeg) 1) = 0 then
        ((-100), τ)
      else
        x_findPlaces_l2 n a ct md b f (i + 1) τ
def x_findPlaces_l1 (n : Nat) (a : Int32) (ct : Int32) (md : Int32) (b : Int32) : Nat → Int32 → XS → Int32 × XS
  | 0, _, τ => (0, τ)
  | f + 1, i, τ =>
    if ct ≤ i then
      x_findPlaces_l2 n a ct md b 5 0 τ
    else
      if i ≤ 0 then
        kb (x_translate n τ ((a + i) &&& 65535) md b 1) (fun r_205 t_203 =>
        if (0 : Int32) ≤ r_205 then
          x_findPlaces_l1 n a ct md b f (i + 1) (x_sPl t_203 (upd (x_pl t_203) ((i).toNatClampNeg) r_205))
        else
          kv (x_noteFault n t_203 r_205 ((a + i) &&& 65535)) (fun t_207 =>
          (r_205, t_207)))
      else
        if (x_placeInPage ((a + i) &&& 65535)) = 0 then
          kb (x_translate n τ ((a + i) &&& 65535) md b 1) (fun r_212 t_210 =>
          if (0 : Int32) ≤ r_212 then
            x_findPlaces_l1 n a ct md b f (i + 1) (x_sPl t_210 (upd (x_pl t_210) ((i).toNatClampNeg) r_212))
          else
            kv (x_noteFault n t_210 r_212 ((a + i) &&& 65535)) (fun t_214 =>
            (r_212, t_214)))
        else
          x_findPlaces_l1 n a ct md b f (i + 1) (x_sPl τ (upd (x_pl τ) ((i).toNatClampNeg) ((x_pl τ ((i - 1)).toNatClampNeg) + 1)))
def x_findPlaces (n : Nat) (σ : XS) (a : Int32) (ct : Int32) (md : Int32) (b : Int32) : Int32 × XS :=
  x_findPlaces_l1 n a ct md b 5 0 σ
abbrev q_x_findPlaces (dC : Nat → ClassId) (dI : Nat → Nat → Nat) (h : Nat → Nat) (cB cI : ClassId) (n : Nat) (σ : XS) (a : Int32) (ct : Int32) (md : Int32) (b : Int32) (A : Nat → Prop) : Array Value → State → Outcome → State → Prop := va_Qi (fun (r : Int32) (u : XS) => x_findPlaces n σ a ct md b = (r, u)) (x_at dC dI h cB cI n A) A
def x_put (n : Nat) (σ : XS) (a : Int32) (v : Int32) : Int32 × XS :=
  if (x_inMemory n σ a 1) = 0 then
    (0, σ)
  else
    (1, (x_sMem σ (upd (x_mem σ) ((a).toNatClampNeg) (vp_nar .byte ((v).toInt8.toInt32)))))
abbrev q_x_put (dC : Nat → ClassId) (dI : Nat → Nat → Nat) (h : Nat → Nat) (cB cI : ClassId) (n : Nat) (σ : XS) (a : Int32) (v : Int32) (A : Nat → Prop) : Array Value → State → Outcome → State → Prop := va_Qi (fun (r : Int32) (u : XS) => x_put n σ a v = (r, u)) (x_at dC dI h cB cI n A) A
def x_entry_l1 (n : Nat) (a : Int32) (v : Int32) : Nat → Int32 → XS → Int32 × XS
  | 0, _, τ => (0, τ)
  | f + 1, i, τ =>
    if (4 : Int32) ≤ i then
      (1, τ)
    else
      x_entry_l1 n a v f (i + 1) (x_sMem τ (upd (x_mem τ) (((a + i)).toNatClampNeg) (vp_nar .byte (((jushr v ((8 : Int32) * i))).toInt8.toInt32))))
def x_entry (n : Nat) (σ : XS) (a : Int32) (v : Int32) : Int32 × XS :=
  if (x_inMemory n σ a 4) = 0 then
    (0, σ)
  else
    x_entry_l1 n a v 5 0 σ
abbrev q_x_entry (dC : Nat → ClassId) (dI : Nat → Nat → Nat) (h : Nat → Nat) (cB cI : ClassId) (n : Nat) (σ : XS) (a : Int32) (v : Int32) (A : Nat → Prop) : Array Value → State → Outcome → State → Prop := va_Qi (fun (r : Int32) (u : XS) => x_entry n σ a v = (r, u)) (x_at dC dI h cB cI n A) A
def x_region (n : Nat) (σ : XS) (rg : Int32) (ba : Int32) (le : Int32) : Int32 × XS :=
  if rg < 0 then
    (0, σ)
  else
    if rg < 3 then
      if rg = 2 then
        kv (x_forget n (x_sLen (x_sBas σ (upd (x_bas σ) ((rg).toNatClampNeg) (ba &&& 65535))) (upd (x_len (x_sBas σ (upd (x_bas σ) ((rg).toNatClampNeg) (ba &&& 65535)))) ((rg).toNatClampNeg) (le &&& 65535))) 16) (fun t_6 =>
        (1, t_6))
      else
        kv (x_forget n (x_sLen (x_sBas σ (upd (x_bas σ) ((rg).toNatClampNeg) (ba &&& 65535))) (upd (x_len (x_sBas σ (upd (x_bas σ) ((rg).toNatClampNeg) (ba &&& 65535)))) ((rg).toNatClampNeg) (le &&& 65535))) 8) (fun t_4 =>
        (1, t_4))
    else
      (0, σ)
abbrev q_x_region (dC : Nat → ClassId) (dI : Nat → Nat → Nat) (h : Nat → Nat) (cB cI : ClassId) (n : Nat) (σ : XS) (rg : Int32) (ba : Int32) (le : Int32) (A : Nat → Prop) : Array Value → State → Outcome → State → Prop := va_Qi (fun (r : Int32) (u : XS) => x_region n σ rg ba le = (r, u)) (x_at dC dI h cB cI n A) A
def x_map (n : Nat) (σ : XS) (b : Int32) : XS :=
  kv (x_forget n (x_sMp σ b) 16) (fun t_1 =>
  t_1)
abbrev q_x_map (dC : Nat → ClassId) (dI : Nat → Nat → Nat) (h : Nat → Nat) (cB cI : ClassId) (n : Nat) (σ : XS) (b : Int32) (A : Nat → Prop) : Array Value → State → Outcome → State → Prop := va_Qv (fun u : XS => x_map n σ b = u) (x_at dC dI h cB cI n A) A
def x_drop (n : Nat) (σ : XS) (a : Int32) : Int32 × XS :=
  if (x_counts n σ (x_slotOf (a &&& 65535)) (a &&& 65535)) = 0 then
    (0, σ)
  else
    (1, (x_sKp σ (upd (x_kp σ) (((x_slotOf (a &&& 65535))).toNatClampNeg) (-1))))
abbrev q_x_drop (dC : Nat → ClassId) (dI : Nat → Nat → Nat) (h : Nat → Nat) (cB cI : ClassId) (n : Nat) (σ : XS) (a : Int32) (A : Nat → Prop) : Array Value → State → Outcome → State → Prop := va_Qi (fun (r : Int32) (u : XS) => x_drop n σ a = (r, u)) (x_at dC dI h cB cI n A) A
def x_read_l1 (n : Nat) (a : Int32) (ct : Int32) (md : Int32) : Nat → Int64 → Int32 → XS → Int64 × XS
  | 0, _, _, τ => (0, τ)
  | f + 1, v, i, τ =>
    if ct ≤ i then
      (v, τ)
    else
      x_read_l1 n a ct md f (v ||| (jlshl (((x_byteAt n τ (x_pl τ (i).toNatClampNeg))).toInt64) ((8 : Int32) * i))) (i + 1) τ
def x_read (n : Nat) (σ : XS) (a : Int32) (ct : Int32) (md : Int32) : Int64 × XS :=
  if (x_isCount ct) = 0 then
    ((-101), σ)
  else
    kb (x_findPlaces n σ a ct md 0) (fun r_4 t_2 =>
    if r_4 = 0 then
      x_read_l1 n a ct md 5 0 0 t_2
    else
      (((r_4).toInt64), t_2))
abbrev q_x_read (dC : Nat → ClassId) (dI : Nat → Nat → Nat) (h : Nat → Nat) (cB cI : ClassId) (n : Nat) (σ : XS) (a : Int32) (ct : Int32) (md : Int32) (A : Nat → Prop) : Array Value → State → Outcome → State → Prop := va_Ql (fun (r : Int64) (u : XS) => x_read n σ a ct md = (r, u)) (x_at dC dI h cB cI n A) A
def x_write_l1 (n : Nat) (a : Int32) (ct : Int32) (v : Int32) (md : Int32) : Nat → Int32 → XS → Int32 × XS
  | 0, _, τ => (0, τ)
  | f + 1, i, τ =>
    if ct ≤ i then
      (0, τ)
    else
      x_write_l1 n a ct v md f (i + 1) (x_sMem τ (upd (x_mem τ) (((x_pl τ (i).toNatClampNeg)).toNatClampNeg) (vp_nar .byte (((jushr v ((8 : Int32) * i))).toInt8.toInt32))))
def x_write (n : Nat) (σ : XS) (a : Int32) (ct : Int32) (v : Int32) (md : Int32) : Int32 × XS :=
  if (x_isCount ct) = 0 then
    ((-101), σ)
  else
    kb (x_findPlaces n σ a ct md 1) (fun r_4 t_2 =>
    if r_4 = 0 then
      x_write_l1 n a ct v md 5 0 t_2
    else
      (r_4, t_2))
abbrev q_x_write (dC : Nat → ClassId) (dI : Nat → Nat → Nat) (h : Nat → Nat) (cB cI : ClassId) (n : Nat) (σ : XS) (a : Int32) (ct : Int32) (v : Int32) (md : Int32) (A : Nat → Prop) : Array Value → State → Outcome → State → Prop := va_Qi (fun (r : Int32) (u : XS) => x_write n σ a ct v md = (r, u)) (x_at dC dI h cB cI n A) A
def x_where (n : Nat) (σ : XS) (a : Int32) (md : Int32) (b : Int32) : Int32 × XS :=
  kb (x_translate n σ (a &&& 65535) md b 0) (fun r_3 t_1 =>
  if (0 : Int32) ≤ r_3 then
    if (x_inMemory n t_1 r_3 1) = 0 then
      ((-100), t_1)
    else
      (r_3, t_1)
  else
    (r_3, t_1))
abbrev q_x_where (dC : Nat → ClassId) (dI : Nat → Nat → Nat) (h : Nat → Nat) (cB cI : ClassId) (n : Nat) (σ : XS) (a : Int32) (md : Int32) (b : Int32) (A : Nat → Prop) : Array Value → State → Outcome → State → Prop := va_Qi (fun (r : Int32) (u : XS) => x_where n σ a md b = (r, u)) (x_at dC dI h cB cI n A) A
def x_may (n : Nat) (σ : XS) (a : Int32) (md : Int32) (b : Int32) : Int32 × XS :=
  if (x_mp σ) = 0 then
    (1, σ)
  else
    if (x_counts n σ (x_slotOf (a &&& 65535)) (a &&& 65535)) = 0 then
      kb (x_placeOfEntry n σ (a &&& 65535) b 0) (fun r_5 t_3 =>
      if (0 : Int32) ≤ r_5 then
        if (x_gives (x_entryAt n t_3 r_5) md b) = 0 then
          (0, t_3)
        else
          (1, t_3)
      else
        if (x_isAccess r_5) = 0 then
          (r_5, t_3)
        else
          (0, t_3))
    else
      if (x_gives (x_ke σ ((x_slotOf (a &&& 65535))).toNatClampNeg) md b) = 0 then
        (0, σ)
      else
        (1, σ)
abbrev q_x_may (dC : Nat → ClassId) (dI : Nat → Nat → Nat) (h : Nat → Nat) (cB cI : ClassId) (n : Nat) (σ : XS) (a : Int32) (md : Int32) (b : Int32) (A : Nat → Prop) : Array Value → State → Outcome → State → Prop := va_Qi (fun (r : Int32) (u : XS) => x_may n σ a md b = (r, u)) (x_at dC dI h cB cI n A) A
