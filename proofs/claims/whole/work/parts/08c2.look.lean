def m_lookW (n : Nat) (σ : MS) (kp : Int32) (wh_4 : Int32) : Int32 × MS :=
  if (m_regionOf wh_4) = 2 then
    if (m_isInside n σ wh_4) = 0 then
      ((-4), σ)
    else
      if (m_isKept n σ wh_4) = 0 then
        kv ((m_bas σ (2 : Int32).toNatClampNeg) + ((4 : Int32) * (m_pageOf wh_4))) (fun oo_8 =>
        if (m_areFour n σ oo_8) = 0 then
          ((-100), σ)
        else
          kv (m_four n σ oo_8) (fun tb_10 =>
          if tb_10 < 0 then
            if kp = 0 then
              if (m_areFour n (m_sAd σ (((16 : Int32) * (tb_10 &&& 4095)) + (wh_4 - wh_4 / 16 * 16))) (m_ad (m_sAd σ (((16 : Int32) * (tb_10 &&& 4095)) + (wh_4 - wh_4 / 16 * 16))))) = 0 then
                ((-100), (m_sAd σ (((16 : Int32) * (tb_10 &&& 4095)) + (wh_4 - wh_4 / 16 * 16))))
              else
                (0, (m_sLk (m_sAd σ (((16 : Int32) * (tb_10 &&& 4095)) + (wh_4 - wh_4 / 16 * 16))) (m_four n (m_sAd σ (((16 : Int32) * (tb_10 &&& 4095)) + (wh_4 - wh_4 / 16 * 16))) (m_ad (m_sAd σ (((16 : Int32) * (tb_10 &&& 4095)) + (wh_4 - wh_4 / 16 * 16)))))))
            else
              kv (m_keeps n σ wh_4 tb_10 oo_8) (fun t_14 =>
              if (m_areFour n (m_sAd t_14 (((16 : Int32) * (tb_10 &&& 4095)) + (wh_4 - wh_4 / 16 * 16))) (m_ad (m_sAd t_14 (((16 : Int32) * (tb_10 &&& 4095)) + (wh_4 - wh_4 / 16 * 16))))) = 0 then
                ((-100), (m_sAd t_14 (((16 : Int32) * (tb_10 &&& 4095)) + (wh_4 - wh_4 / 16 * 16))))
              else
                (0, (m_sLk (m_sAd t_14 (((16 : Int32) * (tb_10 &&& 4095)) + (wh_4 - wh_4 / 16 * 16))) (m_four n (m_sAd t_14 (((16 : Int32) * (tb_10 &&& 4095)) + (wh_4 - wh_4 / 16 * 16))) (m_ad (m_sAd t_14 (((16 : Int32) * (tb_10 &&& 4095)) + (wh_4 - wh_4 / 16 * 16))))))))
          else
            ((-13), σ)))
      else
        kv (m_en σ ((m_slot wh_4)).toNatClampNeg) (fun tb_17 =>
        if (m_areFour n (m_sAd σ (((16 : Int32) * (tb_17 &&& 4095)) + (wh_4 - wh_4 / 16 * 16))) (m_ad (m_sAd σ (((16 : Int32) * (tb_17 &&& 4095)) + (wh_4 - wh_4 / 16 * 16))))) = 0 then
          ((-100), (m_sAd σ (((16 : Int32) * (tb_17 &&& 4095)) + (wh_4 - wh_4 / 16 * 16))))
        else
          (0, (m_sLk (m_sAd σ (((16 : Int32) * (tb_17 &&& 4095)) + (wh_4 - wh_4 / 16 * 16))) (m_four n (m_sAd σ (((16 : Int32) * (tb_17 &&& 4095)) + (wh_4 - wh_4 / 16 * 16))) (m_ad (m_sAd σ (((16 : Int32) * (tb_17 &&& 4095)) + (wh_4 - wh_4 / 16 * 16))))))))
  else
    ((-4), σ)
