def m_regionOf (a : Int32) : Int32 :=
  ((a >>> (14 &&& 31)) &&& 3)
def m_pageOf (a : Int32) : Int32 :=
  ((a >>> (4 &&& 31)) &&& 1023)
def m_slot (a : Int32) : Int32 :=
  if (m_regionOf a) = 2 then
    ((8 : Int32) + ((m_pageOf a) - (m_pageOf a) / 8 * 8))
  else
    ((0 : Int32) + ((m_pageOf a) - (m_pageOf a) / 8 * 8))
def m_isSize (k : Int32) : Int32 :=
  if k = 1 then
    1
  else
    if k = 2 then
      1
    else
      if k = 4 then
        1
      else
        0
def m_isThere (n : Nat) (σ : MS) (a : Int32) : Int32 :=
  if a < 0 then
    0
  else
    if (nI n) ≤ a then
      0
    else
      1
def m_areFour (n : Nat) (σ : MS) (a : Int32) : Int32 :=
  if a < 0 then
    0
  else
    if ((nI n) - 4) < a then
      0
    else
      1
def m_four (n : Nat) (σ : MS) (a : Int32) : Int32 :=
  ((((m_mem σ (a).toNatClampNeg) ||| ((m_mem σ ((a + 1)).toNatClampNeg) <<< (8 &&& 31))) ||| ((m_mem σ ((a + 2)).toNatClampNeg) <<< (16 &&& 31))) ||| ((m_mem σ ((a + 3)).toNatClampNeg) <<< (24 &&& 31)))
def m_isKept (n : Nat) (σ : MS) (a : Int32) : Int32 :=
  if (m_pg σ ((m_slot a)).toNatClampNeg) = (a &&& 65520) then
    1
  else
    0
def m_isInside (n : Nat) (σ : MS) (a : Int32) : Int32 :=
  if (m_regionOf a) = 1 then
    if (m_pageOf a) < (m_len σ (1 : Int32).toNatClampNeg) then
      0
    else
      1
  else
    if (m_regionOf a) = 3 then
      0
    else
      if (m_len σ ((m_regionOf a)).toNatClampNeg) ≤ (m_pageOf a) then
        0
      else
        1
def m_isRight (n : Nat) (σ : MS) (md : Int32) (b : Int32) : Int32 :=
  if b = 0 then
    if (m_rd σ ((((m_lk σ) >>> (27 &&& 31)) &&& 15)).toNatClampNeg) ≤ md then
      0
    else
      1
  else
    if (m_wr σ ((((m_lk σ) >>> (27 &&& 31)) &&& 15)).toNatClampNeg) ≤ md then
      0
    else
      1
def m_entryOf (n : Nat) (σ : MS) (a : Int32) : Int64 :=
  if (m_areFour n σ a) = 0 then
    (-1)
  else
    ((((m_four n σ a)).toInt64) &&& 4294967295)
def m_kept (n : Nat) (σ : MS) (i : Int32) (k : Int32) : Int64 :=
  if i < 0 then
    (-1)
  else
    if (16 : Int32) ≤ i then
      (-1)
    else
      if k < 0 then
        (-1)
      else
        if k ≤ 2 then
          if (m_pg σ (i).toNatClampNeg) < 0 then
            if k = 0 then
              0
            else
              (-1)
          else
            if k = 0 then
              1
            else
              if k = 1 then
                (((m_pg σ (i).toNatClampNeg)).toInt64)
              else
                ((((m_en σ (i).toNatClampNeg)).toInt64) &&& 4294967295)
        else
          (-1)
def m_failed (n : Nat) (σ : MS)  : Int32 :=
  (m_fa σ)
def m_code (n : Nat) (σ : MS) (k : Int32) (w0 : Int32) (r0 : Int32) : MS :=
  (m_sRd (m_sWr σ (upd (m_wr σ) ((k).toNatClampNeg) w0)) (upd (m_rd (m_sWr σ (upd (m_wr σ) ((k).toNatClampNeg) w0))) ((k).toNatClampNeg) r0))
abbrev q_m_code (dC : Nat → ClassId) (dI : Nat → Nat → Nat) (h : Nat → Nat) (cI : ClassId) (n : Nat) (σ : MS) (k : Int32) (w0 : Int32) (r0 : Int32) (A : Nat → Prop) : Array Value → State → Outcome → State → Prop := va_Qv (fun u : MS => m_code n σ k w0 r0 = u) (m_at dC dI h cI n A) A
def m_putFour_l1 (n : Nat) (a : Int32) (v : Int32) : Nat → Int32 → MS → MS
  | 0, _, τ => τ
  | f + 1, i, τ =>
    if (4 : Int32) ≤ i then
      τ
    else
      m_putFour_l1 n a v f (i + 1) (m_sMem τ (upd (m_mem τ) (((a + i)).toNatClampNeg) ((v >>> (((8 : Int32) * i) &&& 31)) &&& 255)))
def m_putFour (n : Nat) (σ : MS) (a : Int32) (v : Int32) : MS :=
  m_putFour_l1 n a v 5 0 σ
abbrev q_m_putFour (dC : Nat → ClassId) (dI : Nat → Nat → Nat) (h : Nat → Nat) (cI : ClassId) (n : Nat) (σ : MS) (a : Int32) (v : Int32) (A : Nat → Prop) : Array Value → State → Outcome → State → Prop := va_Qv (fun u : MS => m_putFour n σ a v = u) (m_at dC dI h cI n A) A
def m_put (n : Nat) (σ : MS) (a : Int32) (v : Int32) : Int32 × MS :=
  if (m_isThere n σ a) = 0 then
    (0, σ)
  else
    (1, (m_sMem σ (upd (m_mem σ) ((a).toNatClampNeg) (v &&& 255))))
abbrev q_m_put (dC : Nat → ClassId) (dI : Nat → Nat → Nat) (h : Nat → Nat) (cI : ClassId) (n : Nat) (σ : MS) (a : Int32) (v : Int32) (A : Nat → Prop) : Array Value → State → Outcome → State → Prop := va_Qi (fun (r : Int32) (u : MS) => m_put n σ a v = (r, u)) (m_at dC dI h cI n A) A
def m_entry (n : Nat) (σ : MS) (a : Int32) (v : Int32) : Int32 × MS :=
  if (m_areFour n σ a) = 0 then
    (0, σ)
  else
    kv (m_putFour n σ a v) (fun t_2 =>
    (1, t_2))
abbrev q_m_entry (dC : Nat → ClassId) (dI : Nat → Nat → Nat) (h : Nat → Nat) (cI : ClassId) (n : Nat) (σ : MS) (a : Int32) (v : Int32) (A : Nat → Prop) : Array Value → State → Outcome → State → Prop := va_Qi (fun (r : Int32) (u : MS) => m_entry n σ a v = (r, u)) (m_at dC dI h cI n A) A
def m_forget_l1 (n : Nat) (fr : Int32) (k : Int32) : Nat → Int32 → MS → MS
  | 0, _, τ => τ
  | f + 1, i, τ =>
    if k ≤ i then
      τ
    else
      m_forget_l1 n fr k f (i + 1) (m_sPg τ (upd (m_pg τ) ((i).toNatClampNeg) (-1)))
def m_forget (n : Nat) (σ : MS) (fr : Int32) (k : Int32) : MS :=
  m_forget_l1 n fr k 17 fr σ
abbrev q_m_forget (dC : Nat → ClassId) (dI : Nat → Nat → Nat) (h : Nat → Nat) (cI : ClassId) (n : Nat) (σ : MS) (fr : Int32) (k : Int32) (A : Nat → Prop) : Array Value → State → Outcome → State → Prop := va_Qv (fun u : MS => m_forget n σ fr k = u) (m_at dC dI h cI n A) A
def m_region (n : Nat) (σ : MS) (rg : Int32) (ba : Int32) (le : Int32) : Int32 × MS :=
  if rg < 0 then
    (0, σ)
  else
    if rg < 3 then
      if rg = 2 then
        kv (m_forget n (m_sLen (m_sBas σ (upd (m_bas σ) ((rg).toNatClampNeg) (ba &&& 65535))) (upd (m_len (m_sBas σ (upd (m_bas σ) ((rg).toNatClampNeg) (ba &&& 65535)))) ((rg).toNatClampNeg) (le &&& 65535))) 0 16) (fun t_6 =>
        (1, t_6))
      else
        kv (m_forget n (m_sLen (m_sBas σ (upd (m_bas σ) ((rg).toNatClampNeg) (ba &&& 65535))) (upd (m_len (m_sBas σ (upd (m_bas σ) ((rg).toNatClampNeg) (ba &&& 65535)))) ((rg).toNatClampNeg) (le &&& 65535))) 0 8) (fun t_4 =>
        (1, t_4))
    else
      (0, σ)
abbrev q_m_region (dC : Nat → ClassId) (dI : Nat → Nat → Nat) (h : Nat → Nat) (cI : ClassId) (n : Nat) (σ : MS) (rg : Int32) (ba : Int32) (le : Int32) (A : Nat → Prop) : Array Value → State → Outcome → State → Prop := va_Qi (fun (r : Int32) (u : MS) => m_region n σ rg ba le = (r, u)) (m_at dC dI h cI n A) A
def m_map (n : Nat) (σ : MS) (b : Int32) : MS :=
  kv (m_forget n (m_sOn σ b) 0 16) (fun t_1 =>
  t_1)
abbrev q_m_map (dC : Nat → ClassId) (dI : Nat → Nat → Nat) (h : Nat → Nat) (cI : ClassId) (n : Nat) (σ : MS) (b : Int32) (A : Nat → Prop) : Array Value → State → Outcome → State → Prop := va_Qv (fun u : MS => m_map n σ b = u) (m_at dC dI h cI n A) A
def m_keeps (n : Nat) (σ : MS) (a : Int32) (v : Int32) (q : Int32) : MS :=
  (m_sPc (m_sEn (m_sPg σ (upd (m_pg σ) (((m_slot a)).toNatClampNeg) (a &&& 65520))) (upd (m_en (m_sPg σ (upd (m_pg σ) (((m_slot a)).toNatClampNeg) (a &&& 65520)))) (((m_slot a)).toNatClampNeg) v)) (upd (m_pc (m_sEn (m_sPg σ (upd (m_pg σ) (((m_slot a)).toNatClampNeg) (a &&& 65520))) (upd (m_en (m_sPg σ (upd (m_pg σ) (((m_slot a)).toNatClampNeg) (a &&& 65520)))) (((m_slot a)).toNatClampNeg) v))) (((m_slot a)).toNatClampNeg) q))
abbrev q_m_keeps (dC : Nat → ClassId) (dI : Nat → Nat → Nat) (h : Nat → Nat) (cI : ClassId) (n : Nat) (σ : MS) (a : Int32) (v : Int32) (q : Int32) (A : Nat → Prop) : Array Value → State → Outcome → State → Prop := va_Qv (fun u : MS => m_keeps n σ a v q = u) (m_at dC dI h cI n A) A
def m_drop (n : Nat) (σ : MS) (a : Int32) : Int32 × MS :=
  if (m_isKept n σ (a &&& 65535)) = 0 then
    (0, σ)
  else
    (1, (m_sPg σ (upd (m_pg σ) (((m_slot (a &&& 65535))).toNatClampNeg) (-1))))
abbrev q_m_drop (dC : Nat → ClassId) (dI : Nat → Nat → Nat) (h : Nat → Nat) (cI : ClassId) (n : Nat) (σ : MS) (a : Int32) (A : Nat → Prop) : Array Value → State → Outcome → State → Prop := va_Qi (fun (r : Int32) (u : MS) => m_drop n σ a = (r, u)) (m_at dC dI h cI n A) A
def m_look (n : Nat) (σ : MS) (a : Int32) (kp : Int32) : Int32 × MS :=
  if (m_isKept n σ a) = 0 then
    if (m_isInside n σ a) = 0 then
      ((-2), σ)
    else
      if (m_regionOf a) = 2 then
        if (m_areFour n (m_sAd σ ((m_bas σ (2 : Int32).toNatClampNeg) + ((4 : Int32) * (m_pageOf a)))) (m_ad (m_sAd σ ((m_bas σ (2 : Int32).toNatClampNeg) + ((4 : Int32) * (m_pageOf a)))))) = 0 then
          ((-100), (m_sAd σ ((m_bas σ (2 : Int32).toNatClampNeg) + ((4 : Int32) * (m_pageOf a)))))
        else
          (0, (m_sLk (m_sAd σ ((m_bas σ (2 : Int32).toNatClampNeg) + ((4 : Int32) * (m_pageOf a)))) (m_four n (m_sAd σ ((m_bas σ (2 : Int32).toNatClampNeg) + ((4 : Int32) * (m_pageOf a)))) (m_ad (m_sAd σ ((m_bas σ (2 : Int32).toNatClampNeg) + ((4 : Int32) * (m_pageOf a))))))))
      else
        kv (((m_bas σ ((m_regionOf a)).toNatClampNeg) + ((4 : Int32) * (m_pageOf a))) &&& 65535) (fun wh_4 =>
        if (m_regionOf wh_4) = 2 then
          if (m_isInside n σ wh_4) = 0 then
            ((-4), σ)
          else
            if (m_isKept n σ wh_4) = 0 then
              kv ((m_bas σ (2 : Int32).toNatClampNeg) + ((4 : Int32) * (m_pageOf wh_4))) (fun oo_8 =>
              if (m_areFour n σ oo_8) = 0 then
                ((-100), σ)
              else
                kv (m_four n σ oo_8) (fun tb_10 =>
                if tb_10 < 0 then
                  if kp = 0 then
                    if (m_areFour n (m_sAd σ (((16 : Int32) * (tb_10 &&& 4095)) + (wh_4 - wh_4 / 16 * 16))) (m_ad (m_sAd σ (((16 : Int32) * (tb_10 &&& 4095)) + (wh_4 - wh_4 / 16 * 16))))) = 0 then
                      ((-100), (m_sAd σ (((16 : Int32) * (tb_10 &&& 4095)) + (wh_4 - wh_4 / 16 * 16))))
                    else
                      (0, (m_sLk (m_sAd σ (((16 : Int32) * (tb_10 &&& 4095)) + (wh_4 - wh_4 / 16 * 16))) (m_four n (m_sAd σ (((16 : Int32) * (tb_10 &&& 4095)) + (wh_4 - wh_4 / 16 * 16))) (m_ad (m_sAd σ (((16 : Int32) * (tb_10 &&& 4095)) + (wh_4 - wh_4 / 16 * 16)))))))
                  else
                    kv (m_keeps n σ wh_4 tb_10 oo_8) (fun t_14 =>
                    if (m_areFour n (m_sAd t_14 (((16 : Int32) * (tb_10 &&& 4095)) + (wh_4 - wh_4 / 16 * 16))) (m_ad (m_sAd t_14 (((16 : Int32) * (tb_10 &&& 4095)) + (wh_4 - wh_4 / 16 * 16))))) = 0 then
                      ((-100), (m_sAd t_14 (((16 : Int32) * (tb_10 &&& 4095)) + (wh_4 - wh_4 / 16 * 16))))
                    else
                      (0, (m_sLk (m_sAd t_14 (((16 : Int32) * (tb_10 &&& 4095)) + (wh_4 - wh_4 / 16 * 16))) (m_four n (m_sAd t_14 (((16 : Int32) * (tb_10 &&& 4095)) + (wh_4 - wh_4 / 16 * 16))) (m_ad (m_sAd t_14 (((16 : Int32) * (tb_10 &&& 4095)) + (wh_4 - wh_4 / 16 * 16))))))))
                else
                  ((-13), σ)))
            else
              kv (m_en σ ((m_slot wh_4)).toNatClampNeg) (fun tb_17 =>
              if (m_areFour n (m_sAd σ (((16 : Int32) * (tb_17 &&& 4095)) + (wh_4 - wh_4 / 16 * 16))) (m_ad (m_sAd σ (((16 : Int32) * (tb_17 &&& 4095)) + (wh_4 - wh_4 / 16 * 16))))) = 0 then
                ((-100), (m_sAd σ (((16 : Int32) * (tb_17 &&& 4095)) + (wh_4 - wh_4 / 16 * 16))))
              else
                (0, (m_sLk (m_sAd σ (((16 : Int32) * (tb_17 &&& 4095)) + (wh_4 - wh_4 / 16 * 16))) (m_four n (m_sAd σ (((16 : Int32) * (tb_17 &&& 4095)) + (wh_4 - wh_4 / 16 * 16))) (m_ad (m_sAd σ (((16 : Int32) * (tb_17 &&& 4095)) + (wh_4 - wh_4 / 16 * 16))))))))
        else
          ((-4), σ))
  else
    (0, (m_sAd (m_sLk σ (m_en σ ((m_slot a)).toNatClampNeg)) (m_pc (m_sLk σ (m_en σ ((m_slot a)).toNatClampNeg)) ((m_slot a)).toNatClampNeg)))
abbrev q_m_look (dC : Nat → ClassId) (dI : Nat → Nat → Nat) (h : Nat → Nat) (cI : ClassId) (n : Nat) (σ : MS) (a : Int32) (kp : Int32) (A : Nat → Prop) : Array Value → State → Outcome → State → Prop := va_Qi (fun (r : Int32) (u : MS) => m_look n σ a kp = (r, u)) (m_at dC dI h cI n A) A
def m_translate (n : Nat) (σ : MS) (a : Int32) (md : Int32) (b : Int32) (kp : Int32) : Int32 × MS :=
  if (m_on σ) = 0 then
    (a, σ)
  else
    if b = 0 then
      kb (m_look n σ a kp) (fun r_5 t_3 =>
      if (0 : Int32) ≤ r_5 then
        if (m_isRight n t_3 md b) = 0 then
          ((((-1) : Int32) - 0), t_3)
        else
          if (m_lk t_3) < 0 then
            if kp = 0 then
              ((((16 : Int32) * ((m_lk t_3) &&& 4095)) + (a - a / 16 * 16)), t_3)
            else
              kv (m_keeps n t_3 a (m_lk t_3) (m_ad t_3)) (fun t_13 =>
              ((((16 : Int32) * ((m_lk t_13) &&& 4095)) + (a - a / 16 * 16)), t_13))
          else
            ((((-11) : Int32) - 0), t_3)
      else
        if r_5 = (-100) then
          ((-100), t_3)
        else
          ((r_5 - 0), t_3))
    else
      kb (m_look n σ a kp) (fun r_18 t_16 =>
      if (0 : Int32) ≤ r_18 then
        if (m_isRight n t_16 md b) = 0 then
          ((((-1) : Int32) - 4), t_16)
        else
          if (m_lk t_16) < 0 then
            if kp = 0 then
              ((((16 : Int32) * ((m_lk t_16) &&& 4095)) + (a - a / 16 * 16)), t_16)
            else
              if (((m_lk t_16) >>> (26 &&& 31)) &&& 1) = 0 then
                kv (m_putFour n (m_sLk t_16 ((m_lk t_16) ||| 67108864)) (m_ad (m_sLk t_16 ((m_lk t_16) ||| 67108864))) ((m_four n (m_sLk t_16 ((m_lk t_16) ||| 67108864)) (m_ad (m_sLk t_16 ((m_lk t_16) ||| 67108864)))) ||| 67108864)) (fun t_29 =>
                kv (m_keeps n t_29 a (m_lk t_29) (m_ad t_29)) (fun t_32 =>
                ((((16 : Int32) * ((m_lk t_32) &&& 4095)) + (a - a / 16 * 16)), t_32)))
              else
                kv (m_keeps n t_16 a (m_lk t_16) (m_ad t_16)) (fun t_27 =>
                ((((16 : Int32) * ((m_lk t_27) &&& 4095)) + (a - a / 16 * 16)), t_27))
          else
            ((((-11) : Int32) - 4), t_16)
      else
        if r_18 = (-100) then
          ((-100), t_16)
        else
          ((r_18 - 4), t_16))
abbrev q_m_translate (dC : Nat → ClassId) (dI : Nat → Nat → Nat) (h : Nat → Nat) (cI : ClassId) (n : Nat) (σ : MS) (a : Int32) (md : Int32) (b : Int32) (kp : Int32) (A : Nat → Prop) : Array Value → State → Outcome → State → Prop := va_Qi (fun (r : Int32) (u : MS) => m_translate n σ a md b kp = (r, u)) (m_at dC dI h cI n A) A
def m_reach_l2 (n : Nat) (a : Int32) (ct : Int32) (md : Int32) (b : Int32) : Nat → Int32 → MS → Int32 × MS
  | 0, _, τ => (0, τ)
  | f + 1, i, τ =>
    if ct ≤ i then
      (0, τ)
    else
      if (m_isThere n τ (m_li τ (i).toNatClampNeg)) = 0 then
        ((-100), τ)
      else
        m_reach_l2 n a ct md b f (i + 1) τ
def m_reach_l1 (n : Nat) (a : Int32) (ct : Int32) (md : Int32) (b : Int32) : Nat → Int32 → MS → Int32 × MS
  | 0, _, τ => (0, τ)
  | f + 1, i, τ =>
    if ct ≤ i then
      m_reach_l2 n a ct md b 5 0 τ
    else
      if i = 0 then
        kb (m_translate n τ ((a + i) &&& 65535) (md &&& 3) b 1) (fun r_205 t_203 =>
        if (0 : Int32) ≤ r_205 then
          m_reach_l1 n a ct md b f (i + 1) (m_sLi t_203 (upd (m_li t_203) ((i).toNatClampNeg) r_205))
        else
          if r_205 = (-100) then
            (r_205, t_203)
          else
            (r_205, (m_sFa t_203 ((a + i) &&& 65535))))
      else
        if (((a + i) &&& 65535) - ((a + i) &&& 65535) / 16 * 16) = 0 then
          kb (m_translate n τ ((a + i) &&& 65535) (md &&& 3) b 1) (fun r_211 t_209 =>
          if (0 : Int32) ≤ r_211 then
            m_reach_l1 n a ct md b f (i + 1) (m_sLi t_209 (upd (m_li t_209) ((i).toNatClampNeg) r_211))
          else
            if r_211 = (-100) then
              (r_211, t_209)
            else
              (r_211, (m_sFa t_209 ((a + i) &&& 65535))))
        else
          m_reach_l1 n a ct md b f (i + 1) (m_sLi τ (upd (m_li τ) ((i).toNatClampNeg) ((m_li τ ((i - 1)).toNatClampNeg) + 1)))
def m_reach (n : Nat) (σ : MS) (a : Int32) (ct : Int32) (md : Int32) (b : Int32) : Int32 × MS :=
  m_reach_l1 n a ct md b 5 0 σ
abbrev q_m_reach (dC : Nat → ClassId) (dI : Nat → Nat → Nat) (h : Nat → Nat) (cI : ClassId) (n : Nat) (σ : MS) (a : Int32) (ct : Int32) (md : Int32) (b : Int32) (A : Nat → Prop) : Array Value → State → Outcome → State → Prop := va_Qi (fun (r : Int32) (u : MS) => m_reach n σ a ct md b = (r, u)) (m_at dC dI h cI n A) A
def m_read_l1 (n : Nat) (a : Int32) (ct : Int32) (md : Int32) : Nat → Int64 → Int32 → MS → Int64 × MS
  | 0, _, _, τ => (0, τ)
  | f + 1, v, i, τ =>
    if i < 0 then
      (v, τ)
    else
      m_read_l1 n a ct md f ((v * 256) + (((m_mem τ ((m_li τ (i).toNatClampNeg)).toNatClampNeg)).toInt64)) (i + (-1)) τ
def m_read (n : Nat) (σ : MS) (a : Int32) (ct : Int32) (md : Int32) : Int64 × MS :=
  if (m_isSize ct) = 0 then
    ((-101), σ)
  else
    kb (m_reach n σ (a &&& 65535) ct md 0) (fun r_4 t_2 =>
    if (0 : Int32) ≤ r_4 then
      m_read_l1 n a ct md 5 0 (ct - 1) t_2
    else
      (((r_4).toInt64), t_2))
abbrev q_m_read (dC : Nat → ClassId) (dI : Nat → Nat → Nat) (h : Nat → Nat) (cI : ClassId) (n : Nat) (σ : MS) (a : Int32) (ct : Int32) (md : Int32) (A : Nat → Prop) : Array Value → State → Outcome → State → Prop := va_Ql (fun (r : Int64) (u : MS) => m_read n σ a ct md = (r, u)) (m_at dC dI h cI n A) A
def m_write_l1 (n : Nat) (a : Int32) (ct : Int32) (v : Int32) (md : Int32) : Nat → Int32 → MS → Int32 × MS
  | 0, _, τ => (0, τ)
  | f + 1, i, τ =>
    if ct ≤ i then
      (0, τ)
    else
      m_write_l1 n a ct v md f (i + 1) (m_sMem τ (upd (m_mem τ) (((m_li τ (i).toNatClampNeg)).toNatClampNeg) ((v >>> (((8 : Int32) * i) &&& 31)) &&& 255)))
def m_write (n : Nat) (σ : MS) (a : Int32) (ct : Int32) (v : Int32) (md : Int32) : Int32 × MS :=
  if (m_isSize ct) = 0 then
    ((-101), σ)
  else
    kb (m_reach n σ (a &&& 65535) ct md 1) (fun r_4 t_2 =>
    if (0 : Int32) ≤ r_4 then
      m_write_l1 n a ct v md 5 0 t_2
    else
      (r_4, t_2))
abbrev q_m_write (dC : Nat → ClassId) (dI : Nat → Nat → Nat) (h : Nat → Nat) (cI : ClassId) (n : Nat) (σ : MS) (a : Int32) (ct : Int32) (v : Int32) (md : Int32) (A : Nat → Prop) : Array Value → State → Outcome → State → Prop := va_Qi (fun (r : Int32) (u : MS) => m_write n σ a ct v md = (r, u)) (m_at dC dI h cI n A) A
def m_where (n : Nat) (σ : MS) (a : Int32) (md : Int32) (b : Int32) : Int32 × MS :=
  kb (m_translate n σ (a &&& 65535) (md &&& 3) b 0) (fun r_3 t_1 =>
  if r_3 < 0 then
    (r_3, t_1)
  else
    if (m_isThere n t_1 r_3) = 0 then
      ((-100), t_1)
    else
      (r_3, t_1))
abbrev q_m_where (dC : Nat → ClassId) (dI : Nat → Nat → Nat) (h : Nat → Nat) (cI : ClassId) (n : Nat) (σ : MS) (a : Int32) (md : Int32) (b : Int32) (A : Nat → Prop) : Array Value → State → Outcome → State → Prop := va_Qi (fun (r : Int32) (u : MS) => m_where n σ a md b = (r, u)) (m_at dC dI h cI n A) A
def m_may (n : Nat) (σ : MS) (a : Int32) (md : Int32) (b : Int32) : Int32 × MS :=
  if (m_on σ) = 0 then
    (1, σ)
  else
    kb (m_look n σ (a &&& 65535) 0) (fun r_4 t_2 =>
    if r_4 = (-100) then
      ((-100), t_2)
    else
      if r_4 = (-13) then
        if b = 0 then
          (r_4, t_2)
        else
          ((r_4 - 4), t_2)
      else
        if r_4 = 0 then
          if (m_isRight n t_2 (md &&& 3) b) = 0 then
            (0, t_2)
          else
            (1, t_2)
        else
          (0, t_2))
abbrev q_m_may (dC : Nat → ClassId) (dI : Nat → Nat → Nat) (h : Nat → Nat) (cI : ClassId) (n : Nat) (σ : MS) (a : Int32) (md : Int32) (b : Int32) (A : Nat → Prop) : Array Value → State → Outcome → State → Prop := va_Qi (fun (r : Int32) (u : MS) => m_may n σ a md b = (r, u)) (m_at dC dI h cI n A) A
