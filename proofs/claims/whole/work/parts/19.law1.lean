def pL_law_l23 (xs : Nat → Int32) (Ln : Nat)  : Nat → Int32 → Ob → Ob → Ob → Ob → Ob → Ob → Ob → Ob → Ob → Ob → Ob → Ob → (Nat → Ob) → (Nat → Ob) → (Nat → Ob) → (Nat → Ob) → (Nat → Ob) → Ob → Ob → Option Int32
  | 0, _, _, _, _, _, _, _, _, _, _, _, _, _, _, _, _, _, _, _, _ => none
  | n + 1, l4, V0, V1, V2, V3, V4, V5, V8, V9, V10, V11, V12, V13, K, IM, IQ, IS, IN, M, O =>
    if (Int32.ofNat Ln) - (6 : Int32) < l4 then
      some 1
    else
      gd (inB l4 Ln) (
        if (xs l4.toNatClampNeg) &&& (63 : Int32) = (0 : Int32) then
          gd (inB (l4 + (1 : Int32)) Ln) (
            gd (inB (l4 + (2 : Int32)) Ln) (
              gd (inB (l4 + (3 : Int32)) Ln) (
                gd (inB (l4 + (4 : Int32)) Ln) (
                  gd (inB (l4 + (5 : Int32)) Ln) (
                    (pX10_feed V0 V1 (xs (l4 + (1 : Int32)).toNatClampNeg) (xs (l4 + (2 : Int32)).toNatClampNeg) (xs (l4 + (3 : Int32)).toNatClampNeg) (xs (l4 + (4 : Int32)).toNatClampNeg) (xs (l4 + (5 : Int32)).toNatClampNeg)).bind fun r45 =>
                    gd (inB (l4 + (1 : Int32)) Ln) (
                      gd (inB (l4 + (2 : Int32)) Ln) (
                        gd (inB (l4 + (3 : Int32)) Ln) (
                          gd (inB (l4 + (4 : Int32)) Ln) (
                            gd (inB (l4 + (5 : Int32)) Ln) (
                              (pX11_feed M (xs (l4 + (1 : Int32)).toNatClampNeg) (xs (l4 + (2 : Int32)).toNatClampNeg) (xs (l4 + (3 : Int32)).toNatClampNeg) (xs (l4 + (4 : Int32)).toNatClampNeg) (xs (l4 + (5 : Int32)).toNatClampNeg)).bind fun r52 =>
                              if r45.1 = r52.1 then
                                pL_law_l23  xs Ln  n (l4 + (6 : Int32)) V0 r45.2 V2 V3 V4 V5 V8 V9 V10 V11 V12 V13 K IM IQ IS IN r52.2 O
                              else
                                some 0))))))))))
        else
        if (xs l4.toNatClampNeg) &&& (63 : Int32) = (1 : Int32) then
          gd (inB (l4 + (1 : Int32)) Ln) (
            (pX10_end V0 V1 (xs (l4 + (1 : Int32)).toNatClampNeg)).bind fun r56 =>
            gd (inB (l4 + (1 : Int32)) Ln) (
              (pX11_end M (xs (l4 + (1 : Int32)).toNatClampNeg)).bind fun r59 =>
              if r56.1 = r59.1 then
                pL_law_l23  xs Ln  n (l4 + (6 : Int32)) V0 r56.2 V2 V3 V4 V5 V8 V9 V10 V11 V12 V13 K IM IQ IS IN r59.2 O
              else
                some 0))
        else
        if (xs l4.toNatClampNeg) &&& (63 : Int32) = (2 : Int32) then
          (pX10_quarter V0 V11 V1 V13 V2 V3 V4 V5).bind fun r62 =>
          (pX11_quarter M).bind fun r64 =>
          if r62.1 = r64.1 then
            pL_law_l23  xs Ln  n (l4 + (6 : Int32)) r62.2.1 r62.2.2.2.1 r62.2.2.2.2.2.1 r62.2.2.2.2.2.2.1 r62.2.2.2.2.2.2.2.1 r62.2.2.2.2.2.2.2.2 V8 V9 V10 r62.2.2.1 V12 r62.2.2.2.2.1 K IM IQ IS IN r64.2 O
          else
            some 0
        else
        if (xs l4.toNatClampNeg) &&& (63 : Int32) = (3 : Int32) then
          (pX10_fault V0).bind fun r67 =>
          (pX11_fault M).bind fun r69 =>
          if r67 = r69.1 then
            pL_law_l23  xs Ln  n (l4 + (6 : Int32)) V0 V1 V2 V3 V4 V5 V8 V9 V10 V11 V12 V13 K IM IQ IS IN r69.2 O
          else
            some 0
        else
        if (xs l4.toNatClampNeg) &&& (63 : Int32) = (4 : Int32) then
          gd (inB (l4 + (1 : Int32)) Ln) (
            gd (inB (l4 + (2 : Int32)) Ln) (
              (pL_person V0 V2 V3 O (xs (l4 + (1 : Int32)).toNatClampNeg) (xs (l4 + (2 : Int32)).toNatClampNeg)).bind fun r74 =>
              gd (inB (l4 + (1 : Int32)) Ln) (
                gd (inB (l4 + (2 : Int32)) Ln) (
                  (pX11_person M (xs (l4 + (1 : Int32)).toNatClampNeg) (xs (l4 + (2 : Int32)).toNatClampNeg)).bind fun r78 =>
                  (pX11_thrown r78.2).bind fun r80 =>
                  if r80 = r74.1 then
                    if r74.1 = 0 then
                      gd (decide (oI r74.2 1 = 1)) (
                        if lg_cmp (oJ r74.2 0 0) r78.1.toInt64 = 0 then
                          pL_law_l23  xs Ln  n (l4 + (6 : Int32)) V0 V1 V2 V3 V4 V5 V8 V9 V10 V11 V12 V13 K IM IQ IS IN r78.2 r74.2
                        else
                          some 0)
                    else
                      pL_law_l23  xs Ln  n (l4 + (6 : Int32)) V0 V1 V2 V3 V4 V5 V8 V9 V10 V11 V12 V13 K IM IQ IS IN r78.2 r74.2
                  else
                    some 0))))
        else
        if (xs l4.toNatClampNeg) &&& (63 : Int32) = (5 : Int32) then
          gd (inB (l4 + (1 : Int32)) Ln) (
            gd (inB (l4 + (2 : Int32)) Ln) (
              (pX10_layer V0 V2 V3 (xs (l4 + (1 : Int32)).toNatClampNeg) (xs (l4 + (2 : Int32)).toNatClampNeg)).bind fun r88 =>
              gd (inB (l4 + (1 : Int32)) Ln) (
                gd (inB (l4 + (2 : Int32)) Ln) (
                  (pX11_layer M (xs (l4 + (1 : Int32)).toNatClampNeg) (xs (l4 + (2 : Int32)).toNatClampNeg)).bind fun r92 =>
                  if r88 = r92.1 then
                    pL_law_l23  xs Ln  n (l4 + (6 : Int32)) V0 V1 V2 V3 V4 V5 V8 V9 V10 V11 V12 V13 K IM IQ IS IN r92.2 O
                  else
                    some 0))))
        else
        if (xs l4.toNatClampNeg) &&& (63 : Int32) = (6 : Int32) then
          gd (inB (l4 + (1 : Int32)) Ln) (
            gd (inB (l4 + (2 : Int32)) Ln) (
              (pX10_thing V0 V2 V3 (xs (l4 + (1 : Int32)).toNatClampNeg) (xs (l4 + (2 : Int32)).toNatClampNeg)).bind fun r97 =>
              gd (inB (l4 + (1 : Int32)) Ln) (
                gd (inB (l4 + (2 : Int32)) Ln) (
                  (pX11_thing M (xs (l4 + (1 : Int32)).toNatClampNeg) (xs (l4 + (2 : Int32)).toNatClampNeg)).bind fun r101 =>
                  if r97 = r101.1 then
                    pL_law_l23  xs Ln  n (l4 + (6 : Int32)) V0 V1 V2 V3 V4 V5 V8 V9 V10 V11 V12 V13 K IM IQ IS IN r101.2 O
                  else
                    some 0))))
        else
        if (xs l4.toNatClampNeg) &&& (63 : Int32) = (7 : Int32) then
          gd (inB (l4 + (1 : Int32)) Ln) (
            gd (inB (l4 + (2 : Int32)) Ln) (
              (pX10_bed V0 V2 V3 (xs (l4 + (1 : Int32)).toNatClampNeg) (xs (l4 + (2 : Int32)).toNatClampNeg)).bind fun r106 =>
              gd (inB (l4 + (1 : Int32)) Ln) (
                gd (inB (l4 + (2 : Int32)) Ln) (
                  (pX11_bed M (xs (l4 + (1 : Int32)).toNatClampNeg) (xs (l4 + (2 : Int32)).toNatClampNeg)).bind fun r110 =>
                  if r106 = r110.1 then
                    pL_law_l23  xs Ln  n (l4 + (6 : Int32)) V0 V1 V2 V3 V4 V5 V8 V9 V10 V11 V12 V13 K IM IQ IS IN r110.2 O
                  else
                    some 0))))
        else
        if (xs l4.toNatClampNeg) &&& (63 : Int32) = (8 : Int32) then
          gd (inB (l4 + (1 : Int32)) Ln) (
            (pX10_now V0 V3 V2 (xs (l4 + (1 : Int32)).toNatClampNeg)).bind fun r114 =>
            gd (inB (l4 + (1 : Int32)) Ln) (
              (pX11_now M (xs (l4 + (1 : Int32)).toNatClampNeg)).bind fun r117 =>
              if r114 = r117.1 then
                pL_law_l23  xs Ln  n (l4 + (6 : Int32)) V0 V1 V2 V3 V4 V5 V8 V9 V10 V11 V12 V13 K IM IQ IS IN r117.2 O
              else
                some 0))
        else
        if (xs l4.toNatClampNeg) &&& (63 : Int32) = (9 : Int32) then
          gd (inB (l4 + (1 : Int32)) Ln) (
            gd (inB (l4 + (2 : Int32)) Ln) (
              (pX10_stroke V0 V2 V3 V5 K (xs (l4 + (1 : Int32)).toNatClampNeg) (xs (l4 + (2 : Int32)).toNatClampNeg)).bind fun r122 =>
              gd (inB (l4 + (1 : Int32)) Ln) (
                gd (inB (l4 + (2 : Int32)) Ln) (
                  (pX11_stroke M (xs (l4 + (1 : Int32)).toNatClampNeg) (xs (l4 + (2 : Int32)).toNatClampNeg)).bind fun r126 =>
                  if r122.1 = r126.1 then
                    pL_law_l23  xs Ln  n (l4 + (6 : Int32)) V0 V1 V2 r122.2.1 V4 r122.2.2.1 V8 V9 V10 V11 V12 V13 r122.2.2.2 IM IQ IS IN r126.2 O
                  else
                    some 0))))
        else
        if (xs l4.toNatClampNeg) &&& (63 : Int32) = (10 : Int32) then
          gd (inB (l4 + (1 : Int32)) Ln) (
            (pX10_cut V0 V2 V3 V5 K (xs (l4 + (1 : Int32)).toNatClampNeg)).bind fun r130 =>
            gd (inB (l4 + (1 : Int32)) Ln) (
              (pX11_cut M (xs (l4 + (1 : Int32)).toNatClampNeg)).bind fun r133 =>
              if r130.1 = r133.1 then
                pL_law_l23  xs Ln  n (l4 + (6 : Int32)) V0 V1 V2 r130.2.1 V4 r130.2.2.1 V8 V9 V10 V11 V12 V13 r130.2.2.2 IM IQ IS IN r133.2 O
              else
                some 0))
        else
        if (xs l4.toNatClampNeg) &&& (63 : Int32) = (11 : Int32) then
          gd (inB (l4 + (1 : Int32)) Ln) (
            gd (inB (l4 + (2 : Int32)) Ln) (
              (pX10_snag V0 V2 V3 V5 K (xs (l4 + (1 : Int32)).toNatClampNeg) (xs (l4 + (2 : Int32)).toNatClampNeg)).bind fun r138 =>
              gd (inB (l4 + (1 : Int32)) Ln) (
                gd (inB (l4 + (2 : Int32)) Ln) (
                  (pX11_snag M (xs (l4 + (1 : Int32)).toNatClampNeg) (xs (l4 + (2 : Int32)).toNatClampNeg)).bind fun r142 =>
                  if r138.1 = r142.1 then
                    pL_law_l23  xs Ln  n (l4 + (6 : Int32)) V0 V1 V2 r138.2.1 V4 r138.2.2.1 V8 V9 V10 V11 V12 V13 r138.2.2.2 IM IQ IS IN r142.2 O
                  else
                    some 0))))
        else
        if (xs l4.toNatClampNeg) &&& (63 : Int32) = (12 : Int32) then
          gd (inB (l4 + (1 : Int32)) Ln) (
            gd (inB (l4 + (2 : Int32)) Ln) (
              (pX10_stuff V0 V2 V3 V5 K (xs (l4 + (1 : Int32)).toNatClampNeg) (xs (l4 + (2 : Int32)).toNatClampNeg)).bind fun r147 =>
              gd (inB (l4 + (1 : Int32)) Ln) (
                gd (inB (l4 + (2 : Int32)) Ln) (
                  (pX11_stuff M (xs (l4 + (1 : Int32)).toNatClampNeg) (xs (l4 + (2 : Int32)).toNatClampNeg)).bind fun r151 =>
                  if r147.1 = r151.1 then
                    pL_law_l23  xs Ln  n (l4 + (6 : Int32)) V0 V1 V2 r147.2.1 V4 r147.2.2.1 V8 V9 V10 V11 V12 V13 r147.2.2.2 IM IQ IS IN r151.2 O
                  else
                    some 0))))
        else
        if (xs l4.toNatClampNeg) &&& (63 : Int32) = (13 : Int32) then
          gd (inB (l4 + (1 : Int32)) Ln) (
            (pX10_days V0 V3 V5 K V2 (xs (l4 + (1 : Int32)).toNatClampNeg)).bind fun r155 =>
            gd (inB (l4 + (1 : Int32)) Ln) (
              (pX11_days M (xs (l4 + (1 : Int32)).toNatClampNeg)).bind fun r158 =>
              if r155.1 = r158.1 then
                pL_law_l23  xs Ln  n (l4 + (6 : Int32)) V0 V1 V2 r155.2.1 V4 r155.2.2.1 V8 V9 V10 V11 V12 V13 r155.2.2.2 IM IQ IS IN r158.2 O
              else
                some 0))
        else
        if (xs l4.toNatClampNeg) &&& (63 : Int32) = (14 : Int32) then
          (pX10_undo V0 V5 V3 K).bind fun r161 =>
          (pX11_undo M).bind fun r163 =>
          if r161.1 = r163.1 then
            pL_law_l23  xs Ln  n (l4 + (6 : Int32)) V0 V1 V2 r161.2.2 V4 r161.2.1 V8 V9 V10 V11 V12 V13 K IM IQ IS IN r163.2 O
          else
            some 0
        else
        if (xs l4.toNatClampNeg) &&& (63 : Int32) = (15 : Int32) then
          gd (inB (l4 + (1 : Int32)) Ln) (
            (pX10_ease V0 V2 V8 V3 (xs (l4 + (1 : Int32)).toNatClampNeg)).bind fun r167 =>
            gd (inB (l4 + (1 : Int32)) Ln) (
              (pX11_ease M (xs (l4 + (1 : Int32)).toNatClampNeg)).bind fun r170 =>
              if r167 = r170.1 then
                pL_law_l23  xs Ln  n (l4 + (6 : Int32)) V0 V1 V2 V3 V4 V5 V8 V9 V10 V11 V12 V13 K IM IQ IS IN r170.2 O
              else
                some 0))
        else
        if (xs l4.toNatClampNeg) &&& (63 : Int32) = (16 : Int32) then
          gd (inB (l4 + (1 : Int32)) Ln) (
            (pX10_nests V0 V2 V8 V3 (xs (l4 + (1 : Int32)).toNatClampNeg)).bind fun r174 =>
            gd (inB (l4 + (1 : Int32)) Ln) (
              (pX11_nests M (xs (l4 + (1 : Int32)).toNatClampNeg)).bind fun r177 =>
              if r174 = r177.1 then
                pL_law_l23  xs Ln  n (l4 + (6 : Int32)) V0 V1 V2 V3 V4 V5 V8 V9 V10 V11 V12 V13 K IM IQ IS IN r177.2 O
              else
                some 0))
        else
        if (xs l4.toNatClampNeg) &&& (63 : Int32) = (17 : Int32) then
          gd (inB (l4 + (1 : Int32)) Ln) (
            (pX10_round V0 V8 V2 V3 (xs (l4 + (1 : Int32)).toNatClampNeg)).bind fun r181 =>
            gd (inB (l4 + (1 : Int32)) Ln) (
              (pX11_round M (xs (l4 + (1 : Int32)).toNatClampNeg)).bind fun r184 =>
              if r181.1 = r184.1 then
                pL_law_l23  xs Ln  n (l4 + (6 : Int32)) r181.2.1 V1 V2 V3 V4 V5 r181.2.2 V9 V10 V11 V12 V13 K IM IQ IS IN r184.2 O
              else
                some 0))
        else
        if (xs l4.toNatClampNeg) &&& (63 : Int32) = (18 : Int32) then
          (pX10_rounded V0).bind fun r187 =>
          (pX11_rounded M).bind fun r189 =>
          if r187 = r189.1 then
            pL_law_l23  xs Ln  n (l4 + (6 : Int32)) V0 V1 V2 V3 V4 V5 V8 V9 V10 V11 V12 V13 K IM IQ IS IN r189.2 O
          else
            some 0
        else
        if (xs l4.toNatClampNeg) &&& (63 : Int32) = (19 : Int32) then
          (pX10_beds V0 V8 V2 V3).bind fun r192 =>
          (pX11_beds M).bind fun r194 =>
          if r192.1 = r194.1 then
            pL_law_l23  xs Ln  n (l4 + (6 : Int32)) r192.2.1 V1 V2 V3 V4 V5 r192.2.2 V9 V10 V11 V12 V13 K IM IQ IS IN r194.2 O
          else
            some 0
        else
        if (xs l4.toNatClampNeg) &&& (63 : Int32) = (20 : Int32) then
          (pX10_bedded V0).bind fun r197 =>
          (pX11_bedded M).bind fun r199 =>
          if r197 = r199.1 then
            pL_law_l23  xs Ln  n (l4 + (6 : Int32)) V0 V1 V2 V3 V4 V5 V8 V9 V10 V11 V12 V13 K IM IQ IS IN r199.2 O
          else
            some 0
        else
        if (xs l4.toNatClampNeg) &&& (63 : Int32) = (21 : Int32) then
          (pX10_fits V0 V1 V2 V3 V8).bind fun r202 =>
          (pX11_fits M).bind fun r204 =>
          if r202.1 = r204.1 then
            pL_law_l23  xs Ln  n (l4 + (6 : Int32)) r202.2.1 r202.2.2 V2 V3 V4 V5 V8 V9 V10 V11 V12 V13 K IM IQ IS IN r204.2 O
          else
            some 0
        else
        if (xs l4.toNatClampNeg) &&& (63 : Int32) = (22 : Int32) then
          (pX10_ask V0).bind fun r207 =>
          (pX11_ask M).bind fun r209 =>
          if r207 = r209.1 then
            pL_law_l23  xs Ln  n (l4 + (6 : Int32)) V0 V1 V2 V3 V4 V5 V8 V9 V10 V11 V12 V13 K IM IQ IS IN r209.2 O
          else
            some 0
        else
        if (xs l4.toNatClampNeg) &&& (63 : Int32) = (23 : Int32) then
          gd (inB (l4 + (1 : Int32)) Ln) (
            (pX10_like V0 V2 V3 (xs (l4 + (1 : Int32)).toNatClampNeg)).bind fun r213 =>
            gd (inB (l4 + (1 : Int32)) Ln) (
              (pX11_like M (xs (l4 + (1 : Int32)).toNatClampNeg)).bind fun r216 =>
              if r213 = r216.1 then
                pL_law_l23  xs Ln  n (l4 + (6 : Int32)) V0 V1 V2 V3 V4 V5 V8 V9 V10 V11 V12 V13 K IM IQ IS IN r216.2 O
              else
                some 0))
        else
        if (xs l4.toNatClampNeg) &&& (63 : Int32) = (24 : Int32) then
          (pX10_hardest V0 V2 V3).bind fun r219 =>
          (pX11_hardest M).bind fun r221 =>
          if r219 = r221.1 then
            pL_law_l23  xs Ln  n (l4 + (6 : Int32)) V0 V1 V2 V3 V4 V5 V8 V9 V10 V11 V12 V13 K IM IQ IS IN r221.2 O
          else
            some 0
        else
        if (xs l4.toNatClampNeg) &&& (63 : Int32) = (25 : Int32) then
          gd (inB (l4 + (1 : Int32)) Ln) (
            gd (inB (l4 + (2 : Int32)) Ln) (
              (pL_mean V0 V2 V3 O (xs (l4 + (1 : Int32)).toNatClampNeg) (xs (l4 + (2 : Int32)).toNatClampNeg)).bind fun r226 =>
              gd (inB (l4 + (1 : Int32)) Ln) (
                gd (inB (l4 + (2 : Int32)) Ln) (
                  (pX11_mean M (xs (l4 + (1 : Int32)).toNatClampNeg) (xs (l4 + (2 : Int32)).toNatClampNeg)).bind fun r230 =>
                  (pX11_thrown r230.2).bind fun r232 =>
                  if r232 = r226.1 then
                    if r226.1 = 0 then
                      gd (decide (oI r226.2 1 = 1)) (
                        if lg_cmp (oJ r226.2 0 0) r230.1.toInt64 = 0 then
                          pL_law_l23  xs Ln  n (l4 + (6 : Int32)) V0 V1 V2 V3 V4 V5 V8 V9 V10 V11 V12 V13 K IM IQ IS IN r230.2 r226.2
                        else
                          some 0)
                    else
                      pL_law_l23  xs Ln  n (l4 + (6 : Int32)) V0 V1 V2 V3 V4 V5 V8 V9 V10 V11 V12 V13 K IM IQ IS IN r230.2 r226.2
                  else
                    some 0))))
        else
        if (xs l4.toNatClampNeg) &&& (63 : Int32) = (26 : Int32) then
          gd (inB (l4 + (1 : Int32)) Ln) (
            (pX10_tag V0 V2 V10 V3 (xs (l4 + (1 : Int32)).toNatClampNeg)).bind fun r239 =>
            gd (inB (l4 + (1 : Int32)) Ln) (
              (pX11_tag M (xs (l4 + (1 : Int32)).toNatClampNeg)).bind fun r242 =>
              if r239.1 = r242.1 then
                pL_law_l23  xs Ln  n (l4 + (6 : Int32)) V0 V1 V2 V3 V4 V5 V8 V9 r239.2 V11 V12 V13 K IM IQ IS IN r242.2 O
              else
                some 0))
        else
        if (xs l4.toNatClampNeg) &&& (63 : Int32) = (27 : Int32) then
          gd (inB (l4 + (1 : Int32)) Ln) (
            (pX10_byteAt V0 V10 (xs (l4 + (1 : Int32)).toNatClampNeg)).bind fun r246 =>
            gd (inB (l4 + (1 : Int32)) Ln) (
              (pX11_byteAt M (xs (l4 + (1 : Int32)).toNatClampNeg)).bind fun r249 =>
              if r246 = r249.1 then
                pL_law_l23  xs Ln  n (l4 + (6 : Int32)) V0 V1 V2 V3 V4 V5 V8 V9 V10 V11 V12 V13 K IM IQ IS IN r249.2 O
              else
                some 0))
        else
        if (xs l4.toNatClampNeg) &&& (63 : Int32) = (28 : Int32) then
          gd (inB (l4 + (1 : Int32)) Ln) (
            gd (inB (l4 + (2 : Int32)) Ln) (
              (pX10_drawn V0 V3 V5 K V2 (xs (l4 + (1 : Int32)).toNatClampNeg) (xs (l4 + (2 : Int32)).toNatClampNeg)).bind fun r254 =>
              gd (inB (l4 + (1 : Int32)) Ln) (
                gd (inB (l4 + (2 : Int32)) Ln) (
                  (pX11_drawn M (xs (l4 + (1 : Int32)).toNatClampNeg) (xs (l4 + (2 : Int32)).toNatClampNeg)).bind fun r258 =>
                  if r254.1 = r258.1 then
                    pL_law_l23  xs Ln  n (l4 + (6 : Int32)) V0 V1 V2 r254.2.1 V4 r254.2.2.1 V8 V9 V10 V11 V12 V13 r254.2.2.2 IM IQ IS IN r258.2 O
                  else
                    some 0))))
        else
        if (xs l4.toNatClampNeg) &&& (63 : Int32) = (29 : Int32) then
          gd (inB (l4 + (1 : Int32)) Ln) (
            gd (inB (l4 + (2 : Int32)) Ln) (
              gd (inB (l4 + (3 : Int32)) Ln) (
                (pX10_odds V0 V2 V13 V3 (xs (l4 + (1 : Int32)).toNatClampNeg) (xs (l4 + (2 : Int32)).toNatClampNeg) (xs (l4 + (3 : Int32)).toNatClampNeg)).bind fun r264 =>
                gd (inB (l4 + (1 : Int32)) Ln) (
                  gd (inB (l4 + (2 : Int32)) Ln) (
                    gd (inB (l4 + (3 : Int32)) Ln) (
                      (pX11_odds M (xs (l4 + (1 : Int32)).toNatClampNeg) (xs (l4 + (2 : Int32)).toNatClampNeg) (xs (l4 + (3 : Int32)).toNatClampNeg)).bind fun r269 =>
                      if r264.1 = r269.1 then
                        pL_law_l23  xs Ln  n (l4 + (6 : Int32)) V0 V1 V2 V3 V4 V5 V8 V9 V10 V11 V12 r264.2 K IM IQ IS IN r269.2 O
                      else
                        some 0))))))
        else
        if (xs l4.toNatClampNeg) &&& (63 : Int32) = (30 : Int32) then
          gd (inB (l4 + (1 : Int32)) Ln) (
            (pX10_book V0 V9 V1 V2 V13 V3 V5 K (xs (l4 + (1 : Int32)).toNatClampNeg)).bind fun r273 =>
            gd (inB (l4 + (1 : Int32)) Ln) (
              (pX11_book M (xs (l4 + (1 : Int32)).toNatClampNeg)).bind fun r276 =>
              if r273.1 = r276.1 then
                pL_law_l23  xs Ln  n (l4 + (6 : Int32)) r273.2.1 r273.2.2.2.1 V2 r273.2.2.2.2.2.1 V4 r273.2.2.2.2.2.2.1 V8 r273.2.2.1 V10 V11 V12 r273.2.2.2.2.1 r273.2.2.2.2.2.2.2 IM IQ IS IN r276.2 O
              else
                some 0))
        else
        if (xs l4.toNatClampNeg) &&& (63 : Int32) = (31 : Int32) then
          gd (inB (l4 + (1 : Int32)) Ln) (
            (pX10_told V0 V9 (xs (l4 + (1 : Int32)).toNatClampNeg)).bind fun r280 =>
            gd (inB (l4 + (1 : Int32)) Ln) (
              (pX11_told M (xs (l4 + (1 : Int32)).toNatClampNeg)).bind fun r283 =>
              if r280 = r283.1 then
                pL_law_l23  xs Ln  n (l4 + (6 : Int32)) V0 V1 V2 V3 V4 V5 V8 V9 V10 V11 V12 V13 K IM IQ IS IN r283.2 O
              else
                some 0))
        else
        if (xs l4.toNatClampNeg) &&& (63 : Int32) = (32 : Int32) then
          (pX10_sentence V0 V12 V1 V2 V4).bind fun r286 =>
          (pX11_sentence M).bind fun r288 =>
          if r286.1 = r288.1 then
            pL_law_l23  xs Ln  n (l4 + (6 : Int32)) r286.2.1 r286.2.2.2.1 V2 V3 r286.2.2.2.2 V5 V8 V9 V10 V11 r286.2.2.1 V13 K IM IQ IS IN r288.2 O
          else
            some 0
        else
        if (xs l4.toNatClampNeg) &&& (63 : Int32) = (33 : Int32) then
          gd (inB (l4 + (1 : Int32)) Ln) (
            (pX10_said V0 V4 V2 V3 (xs (l4 + (1 : Int32)).toNatClampNeg)).bind fun r292 =>
            gd (inB (l4 + (1 : Int32)) Ln) (
              (pX11_said M (xs (l4 + (1 : Int32)).toNatClampNeg)).bind fun r295 =>
              if r292 = r295.1 then
                pL_law_l23  xs Ln  n (l4 + (6 : Int32)) V0 V1 V2 V3 V4 V5 V8 V9 V10 V11 V12 V13 K IM IQ IS IN r295.2 O
              else
                some 0))
        else
        if (xs l4.toNatClampNeg) &&& (63 : Int32) = (34 : Int32) then
          gd (inB (l4 + (1 : Int32)) Ln) (
            (pX10_image V0 IM IQ IS IN V2 V3 V4 (xs (l4 + (1 : Int32)).toNatClampNeg)).bind fun r299 =>
            gd (inB (l4 + (1 : Int32)) Ln) (
              (pX11_image M (xs (l4 + (1 : Int32)).toNatClampNeg)).bind fun r302 =>
              if r299.1 = r302.1 then
                pL_law_l23  xs Ln  n (l4 + (6 : Int32)) V0 V1 V2 V3 V4 V5 V8 V9 V10 V11 V12 V13 K r299.2.1 r299.2.2.1 r299.2.2.2.1 r299.2.2.2.2 r302.2 O
              else
                some 0))
        else
        if (xs l4.toNatClampNeg) &&& (63 : Int32) = (35 : Int32) then
          gd (inB (l4 + (1 : Int32)) Ln) (
            (pX10_restore V0 IM IQ IS IN V2 V3 V4 V5 (xs (l4 + (1 : Int32)).toNatClampNeg)).bind fun r306 =>
            gd (inB (l4 + (1 : Int32)) Ln) (
              (pX11_restore M (xs (l4 + (1 : Int32)).toNatClampNeg)).bind fun r309 =>
              if r306.1 = r309.1 then
                pL_law_l23  xs Ln  n (l4 + (6 : Int32)) V0 V1 r306.2.1 r306.2.2.1 r306.2.2.2.1 r306.2.2.2.2 V8 V9 V10 V11 V12 V13 K IM IQ IS IN r309.2 O
              else
                some 0))
        else
        if (xs l4.toNatClampNeg) &&& (63 : Int32) = (36 : Int32) then
          gd (inB (l4 + (1 : Int32)) Ln) (
            (pX10_count V0 V1 V2 (xs (l4 + (1 : Int32)).toNatClampNeg)).bind fun r313 =>
            gd (inB (l4 + (1 : Int32)) Ln) (
              (pX11_count M (xs (l4 + (1 : Int32)).toNatClampNeg)).bind fun r316 =>
              if r313 = r316.1 then
                pL_law_l23  xs Ln  n (l4 + (6 : Int32)) V0 V1 V2 V3 V4 V5 V8 V9 V10 V11 V12 V13 K IM IQ IS IN r316.2 O
              else
                some 0))
        else
          pL_law_l23  xs Ln  n (l4 + (6 : Int32)) V0 V1 V2 V3 V4 V5 V8 V9 V10 V11 V12 V13 K IM IQ IS IN M O)
set_option maxRecDepth 100000 in
set_option maxHeartbeats 4000000 in
theorem wL_law_l23 {G : Wc} {xs : Nat → Int32} {Ln b : Nat}  : ∀ (n : Nat) {Γ : Cx} (hF : FnlL G b Ln xs Γ) (hbd : bdg n Γ) {l4 : Int32} {V0 : Ob} {V1 : Ob} {V2 : Ob} {V3 : Ob} {V4 : Ob} {V5 : Ob} {V8 : Ob} {V9 : Ob} {V10 : Ob} {V11 : Ob} {V12 : Ob} {V13 : Ob} {K : (Nat → Ob)} {IM : (Nat → Ob)} {IQ : (Nat → Ob)} {IS : (Nat → Ob)} {IN : (Nat → Ob)} {M : Ob} {O : Ob}, pL_law_l23  xs Ln  n l4 V0 V1 V2 V3 V4 V5 V8 V9 V10 V11 V12 V13 K IM IQ IS IN M O = some 1 → V cL_law RL 48 1969 7 G Γ [(0, V0), (1, V1), (2, V2), (3, V3), (4, V4), (5, V5), (8, V8), (9, V9), (10, V10), (11, V11), (12, V12), (13, V13), (14, K 0), (15, K 1), (16, K 2), (17, K 3), (18, K 4), (19, K 5), (20, K 6), (21, K 7), (6, IM 0), (7, IM 1), (22, IQ 0), (25, IQ 1), (23, IS 0), (26, IS 1), (24, IN 0), (27, IN 1), (28, M), (29, O)] 23 [(0, .ref b), (1, .ref (wA G 0 0)), (2, .ref (wA G 28 0)), (3, .ref (wA G 29 1)), (4, .int l4)] [] := by
  intro n
  induction n with
  | zero => intro Γ hF hbd l4 V0 V1 V2 V3 V4 V5 V8 V9 V10 V11 V12 V13 K IM IQ IS IN M O hf; unfold pL_law_l23 at hf; cases hf
  | succ n ih =>
    intro Γ hF hbd l4 V0 V1 V2 V3 V4 V5 V8 V9 V10 V11 V12 V13 K IM IQ IS IN M O hf
    have hb0 : bdg n Γ := bdg_s hbd
    unfold pL_law_l23 at hf
    refine v_iload (pc := 23) 4 dL_law_23 rfl ?_
    refine v_aload_n (pc := 25) 0 dL_law_25 rfl ?_
    refine V_slen (pc := 26) hF dL_law_26 ?_
    refine v_bipush (pc := 27) (6 : Int32) dL_law_27 cb_6 ?_
    refine v_isub (pc := 29) dL_law_29 ?_
    refine v_icmp_gt (pc := 30) 1257 dL_law_30 (by decide) (fun c1 => ?_) (fun c1 => ?_)
    · replace hf := it_t c1 hf
      refine v_iconst (pc := 1257) (1 : Int32) dL_law_1257 ci_1 ?_
      exact V_lawret (pc := 1258) hF dL_law_1258
    · replace hf := it_f c1 hf
      refine v_aload_n (pc := 33) 0 dL_law_33 rfl ?_
      refine v_iload (pc := 34) 4 dL_law_34 rfl ?_
      replace hf := gd_some hf; obtain ⟨g2, hf⟩ := hf
      refine V_sld (pc := 36) hF g2 dL_law_36 ?_
      refine v_bipush (pc := 37) (63 : Int32) dL_law_37 cb_63 ?_
      refine v_iand (pc := 39) dL_law_39 ?_
      by_cases c3 : (xs l4.toNatClampNeg) &&& (63 : Int32) = (0 : Int32)
      · replace hf := it_t c3 hf
        refine v_tsIn (pc := 40) (0 : Int32) 204 dL_law_40 c3 (by decide) (by decide) rfl (by decide) ?_
        refine v_aload_n (pc := 204) 1 dL_law_204 rfl ?_
        refine v_aload_n (pc := 205) 0 dL_law_205 rfl ?_
        refine v_iload (pc := 206) 4 dL_law_206 rfl ?_
        refine v_iconst (pc := 208) (1 : Int32) dL_law_208 ci_1 ?_
        refine v_iadd (pc := 209) dL_law_209 ?_
        replace hf := gd_some hf; obtain ⟨g40, hf⟩ := hf
        refine V_sld (pc := 210) hF g40 dL_law_210 ?_
        refine v_aload_n (pc := 211) 0 dL_law_211 rfl ?_
        refine v_iload (pc := 212) 4 dL_law_212 rfl ?_
        refine v_iconst (pc := 214) (2 : Int32) dL_law_214 ci_2 ?_
        refine v_iadd (pc := 215) dL_law_215 ?_
        replace hf := gd_some hf; obtain ⟨g41, hf⟩ := hf
        refine V_sld (pc := 216) hF g41 dL_law_216 ?_
        refine v_aload_n (pc := 217) 0 dL_law_217 rfl ?_
        refine v_iload (pc := 218) 4 dL_law_218 rfl ?_
        refine v_iconst (pc := 220) (3 : Int32) dL_law_220 ci_3 ?_
        refine v_iadd (pc := 221) dL_law_221 ?_
        replace hf := gd_some hf; obtain ⟨g42, hf⟩ := hf
        refine V_sld (pc := 222) hF g42 dL_law_222 ?_
        refine v_aload_n (pc := 223) 0 dL_law_223 rfl ?_
        refine v_iload (pc := 224) 4 dL_law_224 rfl ?_
        refine v_iconst (pc := 226) (4 : Int32) dL_law_226 ci_4 ?_
        refine v_iadd (pc := 227) dL_law_227 ?_
        replace hf := gd_some hf; obtain ⟨g43, hf⟩ := hf
        refine V_sld (pc := 228) hF g43 dL_law_228 ?_
        refine v_aload_n (pc := 229) 0 dL_law_229 rfl ?_
        refine v_iload (pc := 230) 4 dL_law_230 rfl ?_
        refine v_iconst (pc := 232) (5 : Int32) dL_law_232 ci_5 ?_
        refine v_iadd (pc := 233) dL_law_233 ?_
        replace hf := gd_some hf; obtain ⟨g44, hf⟩ := hf
        refine V_sld (pc := 234) hF g44 dL_law_234 ?_
        replace hf := bd_some hf; obtain ⟨r45, h46, hf⟩ := hf
        refine V_call (pc := 235) (us1 := [_, _, _, _, _, _, _, _, _, _, _, _, _, _, _, _, _, _, _, _, _, _, _, _, _, _, _, _, _, _]) [0, 1] 0 (kX10_feed  h46) rfl rfl rfl rfl rfl rfl (Nat.le_of_ble_eq_true rfl) rfl rfl rfl wm_RL_22 md_X10_feed (Nat.le_of_ble_eq_true rfl) (Nat.le_of_ble_eq_true rfl) rfl rfl (Nat.le_of_ble_eq_true rfl) dL_law_235 ?_
        refine v_aload_n (pc := 238) 2 dL_law_238 rfl ?_
        refine v_aload_n (pc := 239) 0 dL_law_239 rfl ?_
        refine v_iload (pc := 240) 4 dL_law_240 rfl ?_
        refine v_iconst (pc := 242) (1 : Int32) dL_law_242 ci_1 ?_
        refine v_iadd (pc := 243) dL_law_243 ?_
        replace hf := gd_some hf; obtain ⟨g47, hf⟩ := hf
        refine V_sld (pc := 244) hF g47 dL_law_244 ?_
        refine v_aload_n (pc := 245) 0 dL_law_245 rfl ?_
        refine v_iload (pc := 246) 4 dL_law_246 rfl ?_
        refine v_iconst (pc := 248) (2 : Int32) dL_law_248 ci_2 ?_
        refine v_iadd (pc := 249) dL_law_249 ?_
        replace hf := gd_some hf; obtain ⟨g48, hf⟩ := hf
        refine V_sld (pc := 250) hF g48 dL_law_250 ?_
        refine v_aload_n (pc := 251) 0 dL_law_251 rfl ?_
        refine v_iload (pc := 252) 4 dL_law_252 rfl ?_
        refine v_iconst (pc := 254) (3 : Int32) dL_law_254 ci_3 ?_
        refine v_iadd (pc := 255) dL_law_255 ?_
        replace hf := gd_some hf; obtain ⟨g49, hf⟩ := hf
        refine V_sld (pc := 256) hF g49 dL_law_256 ?_
        refine v_aload_n (pc := 257) 0 dL_law_257 rfl ?_
        refine v_iload (pc := 258) 4 dL_law_258 rfl ?_
        refine v_iconst (pc := 260) (4 : Int32) dL_law_260 ci_4 ?_
        refine v_iadd (pc := 261) dL_law_261 ?_
        replace hf := gd_some hf; obtain ⟨g50, hf⟩ := hf
        refine V_sld (pc := 262) hF g50 dL_law_262 ?_
        refine v_aload_n (pc := 263) 0 dL_law_263 rfl ?_
        refine v_iload (pc := 264) 4 dL_law_264 rfl ?_
        refine v_iconst (pc := 266) (5 : Int32) dL_law_266 ci_5 ?_
        refine v_iadd (pc := 267) dL_law_267 ?_
        replace hf := gd_some hf; obtain ⟨g51, hf⟩ := hf
        refine V_sld (pc := 268) hF g51 dL_law_268 ?_
        replace hf := bd_some hf; obtain ⟨r52, h53, hf⟩ := hf
        refine V_call (pc := 269) (us1 := [_, _, _, _, _, _, _, _, _, _, _, _, _, _, _, _, _, _, _, _, _, _, _, _, _, _, _, _, _, _]) [28] 28 (kX11_feed (o := 28) rfl h53) rfl rfl rfl rfl rfl rfl (Nat.le_of_ble_eq_true rfl) rfl rfl rfl wm_RL_26 md_X11_feed (Nat.le_of_ble_eq_true rfl) (Nat.le_of_ble_eq_true rfl) rfl rfl (Nat.le_of_ble_eq_true rfl) dL_law_269 ?_
        refine v_icmp_eq (pc := 272) 1251 dL_law_272 (by decide) (fun c54 => ?_) (fun c54 => ?_)
        · replace hf := it_t c54 hf
          refine v_iinc (pc := 1251) 4 (l4 + (6 : Int32)) [(4, _), (0, _), (1, _), (2, _), (3, _)] dL_law_1251 rfl (congrArg (fun z => _ + z) ci_6) (Nat.le_of_ble_eq_true rfl) rfl ?_
          refine v_goto (pc := 1254) 23 dL_law_1254 (by decide) ?_
          exact V_sub [1, 2, 3, 4, 0] rfl (ih hF hb0 hf)
        · replace hf := it_f c54 hf
          refine v_iconst (pc := 275) (0 : Int32) dL_law_275 ci_0 ?_
          exact absurd (Option.some.inj hf) (by decide)
      replace hf := it_f c3 hf
      by_cases c4 : (xs l4.toNatClampNeg) &&& (63 : Int32) = (1 : Int32)
      · replace hf := it_t c4 hf
        refine v_tsIn (1 : Int32) 277 dL_law_40 c4 (by decide) (by decide) rfl (by decide) ?_
        refine v_aload_n (pc := 277) 1 dL_law_277 rfl ?_
        refine v_aload_n (pc := 278) 0 dL_law_278 rfl ?_
        refine v_iload (pc := 279) 4 dL_law_279 rfl ?_
        refine v_iconst (pc := 281) (1 : Int32) dL_law_281 ci_1 ?_
        refine v_iadd (pc := 282) dL_law_282 ?_
        replace hf := gd_some hf; obtain ⟨g55, hf⟩ := hf
        refine V_sld (pc := 283) hF g55 dL_law_283 ?_
        replace hf := bd_some hf; obtain ⟨r56, h57, hf⟩ := hf
        refine V_call (pc := 284) (us1 := [_, _, _, _, _, _, _, _, _, _, _, _, _, _, _, _, _, _, _, _, _, _, _, _, _, _, _, _, _, _]) [0, 1] 0 (kX10_end  h57) rfl rfl rfl rfl rfl rfl (Nat.le_of_ble_eq_true rfl) rfl rfl rfl wm_RL_27 md_X10_end (Nat.le_of_ble_eq_true rfl) (Nat.le_of_ble_eq_true rfl) rfl rfl (Nat.le_of_ble_eq_true rfl) dL_law_284 ?_
        refine v_aload_n (pc := 287) 2 dL_law_287 rfl ?_
        refine v_aload_n (pc := 288) 0 dL_law_288 rfl ?_
        refine v_iload (pc := 289) 4 dL_law_289 rfl ?_
        refine v_iconst (pc := 291) (1 : Int32) dL_law_291 ci_1 ?_
        refine v_iadd (pc := 292) dL_law_292 ?_
        replace hf := gd_some hf; obtain ⟨g58, hf⟩ := hf
        refine V_sld (pc := 293) hF g58 dL_law_293 ?_
        replace hf := bd_some hf; obtain ⟨r59, h60, hf⟩ := hf
        refine V_call (pc := 294) (us1 := [_, _, _, _, _, _, _, _, _, _, _, _, _, _, _, _, _, _, _, _, _, _, _, _, _, _, _, _, _, _]) [28] 28 (kX11_end (o := 28) rfl h60) rfl rfl rfl rfl rfl rfl (Nat.le_of_ble_eq_true rfl) rfl rfl rfl wm_RL_31 md_X11_end (Nat.le_of_ble_eq_true rfl) (Nat.le_of_ble_eq_true rfl) rfl rfl (Nat.le_of_ble_eq_true rfl) dL_law_294 ?_
        refine v_icmp_eq (pc := 297) 1251 dL_law_297 (by decide) (fun c61 => ?_) (fun c61 => ?_)
        · replace hf := it_t c61 hf
          refine v_iinc (pc := 1251) 4 (l4 + (6 : Int32)) [(4, _), (0, _), (1, _), (2, _), (3, _)] dL_law_1251 rfl (congrArg (fun z => _ + z) ci_6) (Nat.le_of_ble_eq_true rfl) rfl ?_
          refine v_goto (pc := 1254) 23 dL_law_1254 (by decide) ?_
          exact V_sub [1, 2, 3, 4, 0] rfl (ih hF hb0 hf)
        · replace hf := it_f c61 hf
          refine v_iconst (pc := 300) (0 : Int32) dL_law_300 ci_0 ?_
          exact absurd (Option.some.inj hf) (by decide)
      replace hf := it_f c4 hf
      by_cases c5 : (xs l4.toNatClampNeg) &&& (63 : Int32) = (2 : Int32)
      · replace hf := it_t c5 hf
        refine v_tsIn (2 : Int32) 302 dL_law_40 c5 (by decide) (by decide) rfl (by decide) ?_
        refine v_aload_n (pc := 302) 1 dL_law_302 rfl ?_
        replace hf := bd_some hf; obtain ⟨r62, h63, hf⟩ := hf
        refine V_call (pc := 303) (us1 := [_, _, _, _, _, _, _, _, _, _, _, _, _, _, _, _, _, _, _, _, _, _, _, _, _, _, _, _, _, _]) [0, 9, 1, 11, 2, 3, 4, 5] 0 (kX10_quarter  h63) rfl rfl rfl rfl rfl rfl (Nat.le_of_ble_eq_true rfl) rfl rfl rfl wm_RL_32 md_X10_quarter (Nat.le_of_ble_eq_true rfl) (Nat.le_of_ble_eq_true rfl) rfl rfl (Nat.le_of_ble_eq_true rfl) dL_law_303 ?_
        refine v_aload_n (pc := 306) 2 dL_law_306 rfl ?_
        replace hf := bd_some hf; obtain ⟨r64, h65, hf⟩ := hf
        refine V_call (pc := 307) (us1 := [_, _, _, _, _, _, _, _, _, _, _, _, _, _, _, _, _, _, _, _, _, _, _, _, _, _, _, _, _, _]) [28] 28 (kX11_quarter (o := 28) rfl h65) rfl rfl rfl rfl rfl rfl (Nat.le_of_ble_eq_true rfl) rfl rfl rfl wm_RL_36 md_X11_quarter (Nat.le_of_ble_eq_true rfl) (Nat.le_of_ble_eq_true rfl) rfl rfl (Nat.le_of_ble_eq_true rfl) dL_law_307 ?_
        refine v_icmp_eq (pc := 310) 1251 dL_law_310 (by decide) (fun c66 => ?_) (fun c66 => ?_)
        · replace hf := it_t c66 hf
          refine v_iinc (pc := 1251) 4 (l4 + (6 : Int32)) [(4, _), (0, _), (1, _), (2, _), (3, _)] dL_law_1251 rfl (congrArg (fun z => _ + z) ci_6) (Nat.le_of_ble_eq_true rfl) rfl ?_
          refine v_goto (pc := 1254) 23 dL_law_1254 (by decide) ?_
          exact V_sub [1, 2, 3, 4, 0] rfl (ih hF hb0 hf)
        · replace hf := it_f c66 hf
          refine v_iconst (pc := 313) (0 : Int32) dL_law_313 ci_0 ?_
          exact absurd (Option.some.inj hf) (by decide)
      replace hf := it_f c5 hf
      by_cases c6 : (xs l4.toNatClampNeg) &&& (63 : Int32) = (3 : Int32)
      · replace hf := it_t c6 hf
        refine v_tsIn (3 : Int32) 315 dL_law_40 c6 (by decide) (by decide) rfl (by decide) ?_
        refine v_aload_n (pc := 315) 1 dL_law_315 rfl ?_
        replace hf := bd_some hf; obtain ⟨r67, h68, hf⟩ := hf
        refine V_call (pc := 316) (us1 := [_, _, _, _, _, _, _, _, _, _, _, _, _, _, _, _, _, _, _, _, _, _, _, _, _, _, _, _, _, _]) [0] 0 (kX10_fault  h68) rfl rfl rfl rfl rfl rfl (Nat.le_of_ble_eq_true rfl) rfl rfl rfl wm_RL_37 md_X10_fault (Nat.le_of_ble_eq_true rfl) (Nat.le_of_ble_eq_true rfl) rfl rfl (Nat.le_of_ble_eq_true rfl) dL_law_316 ?_
        refine v_aload_n (pc := 319) 2 dL_law_319 rfl ?_
        replace hf := bd_some hf; obtain ⟨r69, h70, hf⟩ := hf
        refine V_call (pc := 320) (us1 := [_, _, _, _, _, _, _, _, _, _, _, _, _, _, _, _, _, _, _, _, _, _, _, _, _, _, _, _, _, _]) [28] 28 (kX11_fault (o := 28) rfl h70) rfl rfl rfl rfl rfl rfl (Nat.le_of_ble_eq_true rfl) rfl rfl rfl wm_RL_40 md_X11_fault (Nat.le_of_ble_eq_true rfl) (Nat.le_of_ble_eq_true rfl) rfl rfl (Nat.le_of_ble_eq_true rfl) dL_law_320 ?_
        refine v_icmp_eq (pc := 323) 1251 dL_law_323 (by decide) (fun c71 => ?_) (fun c71 => ?_)
        · replace hf := it_t c71 hf
          refine v_iinc (pc := 1251) 4 (l4 + (6 : Int32)) [(4, _), (0, _), (1, _), (2, _), (3, _)] dL_law_1251 rfl (congrArg (fun z => _ + z) ci_6) (Nat.le_of_ble_eq_true rfl) rfl ?_
          refine v_goto (pc := 1254) 23 dL_law_1254 (by decide) ?_
          exact V_sub [1, 2, 3, 4, 0] rfl (ih hF hb0 hf)
        · replace hf := it_f c71 hf
          refine v_iconst (pc := 326) (0 : Int32) dL_law_326 ci_0 ?_
          exact absurd (Option.some.inj hf) (by decide)
      replace hf := it_f c6 hf
      by_cases c7 : (xs l4.toNatClampNeg) &&& (63 : Int32) = (4 : Int32)
      · replace hf := it_t c7 hf
        refine v_tsIn (4 : Int32) 328 dL_law_40 c7 (by decide) (by decide) rfl (by decide) ?_
        refine v_aload_n (pc := 328) 1 dL_law_328 rfl ?_
        refine v_aload_n (pc := 329) 0 dL_law_329 rfl ?_
        refine v_iload (pc := 330) 4 dL_law_330 rfl ?_
        refine v_iconst (pc := 332) (1 : Int32) dL_law_332 ci_1 ?_
        refine v_iadd (pc := 333) dL_law_333 ?_
        replace hf := gd_some hf; obtain ⟨g72, hf⟩ := hf
        refine V_sld (pc := 334) hF g72 dL_law_334 ?_
        refine v_aload_n (pc := 335) 0 dL_law_335 rfl ?_
        refine v_iload (pc := 336) 4 dL_law_336 rfl ?_
        refine v_iconst (pc := 338) (2 : Int32) dL_law_338 ci_2 ?_
        refine v_iadd (pc := 339) dL_law_339 ?_
        replace hf := gd_some hf; obtain ⟨g73, hf⟩ := hf
        refine V_sld (pc := 340) hF g73 dL_law_340 ?_
        refine v_aload_n (pc := 341) 3 dL_law_341 rfl ?_
        replace hf := bd_some hf; obtain ⟨r74, h75, hf⟩ := hf
        refine V_callSW (pc := 342) (us1 := [_, _, _, _, _, _, _, _, _, _, _, _, _, _, _, _, _, _, _, _, _, _, _, _, _, _, _, _, _, _]) [0, 2, 3, 29] (kL_person h75) hF.2.2.2.2.2.2.2 rfl rfl rfl rfl wm_RLs_41 md_L_person (Nat.le_of_ble_eq_true rfl) (Nat.le_of_ble_eq_true rfl) rfl rfl (Nat.le_of_ble_eq_true rfl) dL_law_342 (Nat.le_trans (by omega) hbd.1) (Nat.le_trans (by omega) hbd.2) ?_
        replace hF := FnlL_gx hF; replace hb0 := bdg_gx hbd
        refine v_istore (pc := 345) [(5, _), (0, _), (1, _), (2, _), (3, _), (4, _)] dL_law_345 (Nat.le_of_ble_eq_true rfl) rfl ?_
        refine v_aload_n (pc := 347) 3 dL_law_347 rfl ?_
        refine v_aload_n (pc := 348) 1 dL_law_348 rfl ?_
        refine v_iload (pc := 349) 5 dL_law_349 rfl ?_
        refine v_iconst (pc := 351) (1 : Int32) dL_law_351 ci_1 ?_
        refine v_iadd (pc := 352) dL_law_352 ?_
        replace hf := gd_some hf; obtain ⟨g76, hf⟩ := hf
        refine V_sld (pc := 353) hF g76 dL_law_353 ?_
        refine v_aload_n (pc := 354) 1 dL_law_354 rfl ?_
        refine v_iload (pc := 355) 5 dL_law_355 rfl ?_
        refine v_iconst (pc := 357) (2 : Int32) dL_law_357 ci_2 ?_
        refine v_iadd (pc := 358) dL_law_358 ?_
        replace hf := gd_some hf; obtain ⟨g77, hf⟩ := hf
        refine V_sld (pc := 359) hF g77 dL_law_359 ?_
        replace hf := bd_some hf; obtain ⟨r78, h79, hf⟩ := hf
        refine V_call (pc := 360) (us1 := [_, _, _, _, _, _, _, _, _, _, _, _, _, _, _, _, _, _, _, _, _, _, _, _, _, _, _, _, _, _]) [28] 28 (kX11_person (o := 28) rfl h79) rfl rfl rfl rfl rfl rfl (Nat.le_of_ble_eq_true rfl) rfl rfl rfl wm_RL_46 md_X11_person (Nat.le_of_ble_eq_true rfl) (Nat.le_of_ble_eq_true rfl) rfl rfl (Nat.le_of_ble_eq_true rfl) dL_law_360 ?_
        refine v_istore (pc := 363) [(6, _), (5, _), (0, _), (1, _), (2, _), (3, _), (4, _)] dL_law_363 (Nat.le_of_ble_eq_true rfl) rfl ?_
        refine v_aload_n (pc := 365) 4 dL_law_365 rfl ?_
        replace hf := bd_some hf; obtain ⟨r80, h81, hf⟩ := hf
        refine V_call (pc := 366) (us1 := [_, _, _, _, _, _, _, _, _, _, _, _, _, _, _, _, _, _, _, _, _, _, _, _, _, _, _, _, _, _]) [28] 28 (kX11_thrown (o := 28) rfl h81) rfl rfl rfl rfl rfl rfl (Nat.le_of_ble_eq_true rfl) rfl rfl rfl wm_RL_47 md_X11_thrown (Nat.le_of_ble_eq_true rfl) (Nat.le_of_ble_eq_true rfl) rfl rfl (Nat.le_of_ble_eq_true rfl) dL_law_366 ?_
        refine v_iload (pc := 369) 1 dL_law_369 rfl ?_
        refine v_icmp_eq (pc := 371) 376 dL_law_371 (by decide) (fun c82 => ?_) (fun c82 => ?_)
        · replace hf := it_t c82 hf
          refine v_iload (pc := 376) 1 dL_law_376 rfl ?_
          refine v_if_ne (pc := 378) 393 dL_law_378 (by decide) (fun c83 => ?_) (fun c83 => ?_)
          · replace hf := it_f c83 hf
            refine v_goto (pc := 393) 1251 dL_law_393 (by decide) ?_
            refine v_iinc (pc := 1251) 6 (l4 + (6 : Int32)) [(4, _), (6, _), (5, _), (0, _), (1, _), (2, _), (3, _)] dL_law_1251 rfl (congrArg (fun z => _ + z) ci_6) (Nat.le_of_ble_eq_true rfl) rfl ?_
            refine v_goto (pc := 1254) 23 dL_law_1254 (by decide) ?_
            exact V_sub [3, 4, 5, 6, 0] rfl (ih hF hb0 hf)
          · replace hf := it_t c83 hf
            refine v_aload_n (pc := 381) 5 dL_law_381 rfl ?_
            refine v_iconst (pc := 382) (0 : Int32) dL_law_382 ci_0 ?_
            replace hf := gd_some hf; obtain ⟨g84, hf⟩ := hf
            refine V_lald (pc := 383) 29 0 rfl rfl (Nat.le_of_ble_eq_true rfl) (uc_out (of_decide_eq_true g84)) (by decide) dL_law_383 ?_
            refine v_iload (pc := 384) 0 dL_law_384 rfl ?_
            refine v_i2l (pc := 386) dL_law_386 ?_
            refine v_lcmp (pc := 387) dL_law_387 ?_
            refine v_if_eq (pc := 388) 393 dL_law_388 (by decide) (fun c85 => ?_) (fun c85 => ?_)
            · replace hf := it_t c85 hf
              refine v_goto (pc := 393) 1251 dL_law_393 (by decide) ?_
              refine v_iinc (pc := 1251) 6 (l4 + (6 : Int32)) [(4, _), (6, _), (5, _), (0, _), (1, _), (2, _), (3, _)] dL_law_1251 rfl (congrArg (fun z => _ + z) ci_6) (Nat.le_of_ble_eq_true rfl) rfl ?_
              refine v_goto (pc := 1254) 23 dL_law_1254 (by decide) ?_
              exact V_sub [3, 4, 5, 6, 0] rfl (ih hF hb0 hf)
            · replace hf := it_f c85 hf
              refine v_iconst (pc := 391) (0 : Int32) dL_law_391 ci_0 ?_
              exact absurd (Option.some.inj hf) (by decide)
        · replace hf := it_f c82 hf
          refine v_iconst (pc := 374) (0 : Int32) dL_law_374 ci_0 ?_
          exact absurd (Option.some.inj hf) (by decide)
      replace hf := it_f c7 hf
      by_cases c8 : (xs l4.toNatClampNeg) &&& (63 : Int32) = (5 : Int32)
      · replace hf := it_t c8 hf
        refine v_tsIn (5 : Int32) 396 dL_law_40 c8 (by decide) (by decide) rfl (by decide) ?_
        refine v_aload_n (pc := 396) 1 dL_law_396 rfl ?_
        refine v_aload_n (pc := 397) 0 dL_law_397 rfl ?_
        refine v_iload (pc := 398) 4 dL_law_398 rfl ?_
        refine v_iconst (pc := 400) (1 : Int32) dL_law_400 ci_1 ?_
        refine v_iadd (pc := 401) dL_law_401 ?_
        replace hf := gd_some hf; obtain ⟨g86, hf⟩ := hf
        refine V_sld (pc := 402) hF g86 dL_law_402 ?_
        refine v_aload_n (pc := 403) 0 dL_law_403 rfl ?_
        refine v_iload (pc := 404) 4 dL_law_404 rfl ?_
        refine v_iconst (pc := 406) (2 : Int32) dL_law_406 ci_2 ?_
        refine v_iadd (pc := 407) dL_law_407 ?_
        replace hf := gd_some hf; obtain ⟨g87, hf⟩ := hf
        refine V_sld (pc := 408) hF g87 dL_law_408 ?_
        replace hf := bd_some hf; obtain ⟨r88, h89, hf⟩ := hf
        refine V_call (pc := 409) (us1 := [_, _, _, _, _, _, _, _, _, _, _, _, _, _, _, _, _, _, _, _, _, _, _, _, _, _, _, _, _, _]) [0, 2, 3] 0 (kX10_layer  h89) rfl rfl rfl rfl rfl rfl (Nat.le_of_ble_eq_true rfl) rfl rfl rfl wm_RL_50 md_X10_layer (Nat.le_of_ble_eq_true rfl) (Nat.le_of_ble_eq_true rfl) rfl rfl (Nat.le_of_ble_eq_true rfl) dL_law_409 ?_
        refine v_aload_n (pc := 412) 2 dL_law_412 rfl ?_
        refine v_aload_n (pc := 413) 0 dL_law_413 rfl ?_
        refine v_iload (pc := 414) 4 dL_law_414 rfl ?_
        refine v_iconst (pc := 416) (1 : Int32) dL_law_416 ci_1 ?_
        refine v_iadd (pc := 417) dL_law_417 ?_
        replace hf := gd_some hf; obtain ⟨g90, hf⟩ := hf
        refine V_sld (pc := 418) hF g90 dL_law_418 ?_
        refine v_aload_n (pc := 419) 0 dL_law_419 rfl ?_
        refine v_iload (pc := 420) 4 dL_law_420 rfl ?_
        refine v_iconst (pc := 422) (2 : Int32) dL_law_422 ci_2 ?_
        refine v_iadd (pc := 423) dL_law_423 ?_
        replace hf := gd_some hf; obtain ⟨g91, hf⟩ := hf
        refine V_sld (pc := 424) hF g91 dL_law_424 ?_
        replace hf := bd_some hf; obtain ⟨r92, h93, hf⟩ := hf
        refine V_call (pc := 425) (us1 := [_, _, _, _, _, _, _, _, _, _, _, _, _, _, _, _, _, _, _, _, _, _, _, _, _, _, _, _, _, _]) [28] 28 (kX11_layer (o := 28) rfl h93) rfl rfl rfl rfl rfl rfl (Nat.le_of_ble_eq_true rfl) rfl rfl rfl wm_RL_53 md_X11_layer (Nat.le_of_ble_eq_true rfl) (Nat.le_of_ble_eq_true rfl) rfl rfl (Nat.le_of_ble_eq_true rfl) dL_law_425 ?_
        refine v_icmp_eq (pc := 428) 1251 dL_law_428 (by decide) (fun c94 => ?_) (fun c94 => ?_)
        · replace hf := it_t c94 hf
          refine v_iinc (pc := 1251) 4 (l4 + (6 : Int32)) [(4, _), (0, _), (1, _), (2, _), (3, _)] dL_law_1251 rfl (congrArg (fun z => _ + z) ci_6) (Nat.le_of_ble_eq_true rfl) rfl ?_
          refine v_goto (pc := 1254) 23 dL_law_1254 (by decide) ?_
          exact V_sub [1, 2, 3, 4, 0] rfl (ih hF hb0 hf)
        · replace hf := it_f c94 hf
          refine v_iconst (pc := 431) (0 : Int32) dL_law_431 ci_0 ?_
          exact absurd (Option.some.inj hf) (by decide)
      replace hf := it_f c8 hf
      by_cases c9 : (xs l4.toNatClampNeg) &&& (63 : Int32) = (6 : Int32)
      · replace hf := it_t c9 hf
        refine v_tsIn (6 : Int32) 433 dL_law_40 c9 (by decide) (by decide) rfl (by decide) ?_
        refine v_aload_n (pc := 433) 1 dL_law_433 rfl ?_
        refine v_aload_n (pc := 434) 0 dL_law_434 rfl ?_
        refine v_iload (pc := 435) 4 dL_law_435 rfl ?_
        refine v_iconst (pc := 437) (1 : Int32) dL_law_437 ci_1 ?_
        refine v_iadd (pc := 438) dL_law_438 ?_
        replace hf := gd_some hf; obtain ⟨g95, hf⟩ := hf
        refine V_sld (pc := 439) hF g95 dL_law_439 ?_
        refine v_aload_n (pc := 440) 0 dL_law_440 rfl ?_
        refine v_iload (pc := 441) 4 dL_law_441 rfl ?_
        refine v_iconst (pc := 443) (2 : Int32) dL_law_443 ci_2 ?_
        refine v_iadd (pc := 444) dL_law_444 ?_
        replace hf := gd_some hf; obtain ⟨g96, hf⟩ := hf
        refine V_sld (pc := 445) hF g96 dL_law_445 ?_
        replace hf := bd_some hf; obtain ⟨r97, h98, hf⟩ := hf
        refine V_call (pc := 446) (us1 := [_, _, _, _, _, _, _, _, _, _, _, _, _, _, _, _, _, _, _, _, _, _, _, _, _, _, _, _, _, _]) [0, 2, 3] 0 (kX10_thing  h98) rfl rfl rfl rfl rfl rfl (Nat.le_of_ble_eq_true rfl) rfl rfl rfl wm_RL_54 md_X10_thing (Nat.le_of_ble_eq_true rfl) (Nat.le_of_ble_eq_true rfl) rfl rfl (Nat.le_of_ble_eq_true rfl) dL_law_446 ?_
        refine v_aload_n (pc := 449) 2 dL_law_449 rfl ?_
        refine v_aload_n (pc := 450) 0 dL_law_450 rfl ?_
        refine v_iload (pc := 451) 4 dL_law_451 rfl ?_
        refine v_iconst (pc := 453) (1 : Int32) dL_law_453 ci_1 ?_
        refine v_iadd (pc := 454) dL_law_454 ?_
        replace hf := gd_some hf; obtain ⟨g99, hf⟩ := hf
        refine V_sld (pc := 455) hF g99 dL_law_455 ?_
        refine v_aload_n (pc := 456) 0 dL_law_456 rfl ?_
        refine v_iload (pc := 457) 4 dL_law_457 rfl ?_
        refine v_iconst (pc := 459) (2 : Int32) dL_law_459 ci_2 ?_
        refine v_iadd (pc := 460) dL_law_460 ?_
        replace hf := gd_some hf; obtain ⟨g100, hf⟩ := hf
        refine V_sld (pc := 461) hF g100 dL_law_461 ?_
        replace hf := bd_some hf; obtain ⟨r101, h102, hf⟩ := hf
        refine V_call (pc := 462) (us1 := [_, _, _, _, _, _, _, _, _, _, _, _, _, _, _, _, _, _, _, _, _, _, _, _, _, _, _, _, _, _]) [28] 28 (kX11_thing (o := 28) rfl h102) rfl rfl rfl rfl rfl rfl (Nat.le_of_ble_eq_true rfl) rfl rfl rfl wm_RL_57 md_X11_thing (Nat.le_of_ble_eq_true rfl) (Nat.le_of_ble_eq_true rfl) rfl rfl (Nat.le_of_ble_eq_true rfl) dL_law_462 ?_
        refine v_icmp_eq (pc := 465) 1251 dL_law_465 (by decide) (fun c103 => ?_) (fun c103 => ?_)
        · replace hf := it_t c103 hf
          refine v_iinc (pc := 1251) 4 (l4 + (6 : Int32)) [(4, _), (0, _), (1, _), (2, _), (3, _)] dL_law_1251 rfl (congrArg (fun z => _ + z) ci_6) (Nat.le_of_ble_eq_true rfl) rfl ?_
          refine v_goto (pc := 1254) 23 dL_law_1254 (by decide) ?_
          exact V_sub [1, 2, 3, 4, 0] rfl (ih hF hb0 hf)
        · replace hf := it_f c103 hf
          refine v_iconst (pc := 468) (0 : Int32) dL_law_468 ci_0 ?_
          exact absurd (Option.some.inj hf) (by decide)
      replace hf := it_f c9 hf
      by_cases c10 : (xs l4.toNatClampNeg) &&& (63 : Int32) = (7 : Int32)
      · replace hf := it_t c10 hf
        refine v_tsIn (7 : Int32) 470 dL_law_40 c10 (by decide) (by decide) rfl (by decide) ?_
        refine v_aload_n (pc := 470) 1 dL_law_470 rfl ?_
        refine v_aload_n (pc := 471) 0 dL_law_471 rfl ?_
        refine v_iload (pc := 472) 4 dL_law_472 rfl ?_
        refine v_iconst (pc := 474) (1 : Int32) dL_law_474 ci_1 ?_
        refine v_iadd (pc := 475) dL_law_475 ?_
        replace hf := gd_some hf; obtain ⟨g104, hf⟩ := hf
        refine V_sld (pc := 476) hF g104 dL_law_476 ?_
        refine v_aload_n (pc := 477) 0 dL_law_477 rfl ?_
        refine v_iload (pc := 478) 4 dL_law_478 rfl ?_
        refine v_iconst (pc := 480) (2 : Int32) dL_law_480 ci_2 ?_
        refine v_iadd (pc := 481) dL_law_481 ?_
        replace hf := gd_some hf; obtain ⟨g105, hf⟩ := hf
        refine V_sld (pc := 482) hF g105 dL_law_482 ?_
        replace hf := bd_some hf; obtain ⟨r106, h107, hf⟩ := hf
        refine V_call (pc := 483) (us1 := [_, _, _, _, _, _, _, _, _, _, _, _, _, _, _, _, _, _, _, _, _, _, _, _, _, _, _, _, _, _]) [0, 2, 3] 0 (kX10_bed  h107) rfl rfl rfl rfl rfl rfl (Nat.le_of_ble_eq_true rfl) rfl rfl rfl wm_RL_58 md_X10_bed (Nat.le_of_ble_eq_true rfl) (Nat.le_of_ble_eq_true rfl) rfl rfl (Nat.le_of_ble_eq_true rfl) dL_law_483 ?_
        refine v_aload_n (pc := 486) 2 dL_law_486 rfl ?_
        refine v_aload_n (pc := 487) 0 dL_law_487 rfl ?_
        refine v_iload (pc := 488) 4 dL_law_488 rfl ?_
        refine v_iconst (pc := 490) (1 : Int32) dL_law_490 ci_1 ?_
        refine v_iadd (pc := 491) dL_law_491 ?_
        replace hf := gd_some hf; obtain ⟨g108, hf⟩ := hf
        refine V_sld (pc := 492) hF g108 dL_law_492 ?_
        refine v_aload_n (pc := 493) 0 dL_law_493 rfl ?_
        refine v_iload (pc := 494) 4 dL_law_494 rfl ?_
        refine v_iconst (pc := 496) (2 : Int32) dL_law_496 ci_2 ?_
        refine v_iadd (pc := 497) dL_law_497 ?_
        replace hf := gd_some hf; obtain ⟨g109, hf⟩ := hf
        refine V_sld (pc := 498) hF g109 dL_law_498 ?_
        replace hf := bd_some hf; obtain ⟨r110, h111, hf⟩ := hf
        refine V_call (pc := 499) (us1 := [_, _, _, _, _, _, _, _, _, _, _, _, _, _, _, _, _, _, _, _, _, _, _, _, _, _, _, _, _, _]) [28] 28 (kX11_bed (o := 28) rfl h111) rfl rfl rfl rfl rfl rfl (Nat.le_of_ble_eq_true rfl) rfl rfl rfl wm_RL_61 md_X11_bed (Nat.le_of_ble_eq_true rfl) (Nat.le_of_ble_eq_true rfl) rfl rfl (Nat.le_of_ble_eq_true rfl) dL_law_499 ?_
        refine v_icmp_eq (pc := 502) 1251 dL_law_502 (by decide) (fun c112 => ?_) (fun c112 => ?_)
        · replace hf := it_t c112 hf
          refine v_iinc (pc := 1251) 4 (l4 + (6 : Int32)) [(4, _), (0, _), (1, _), (2, _), (3, _)] dL_law_1251 rfl (congrArg (fun z => _ + z) ci_6) (Nat.le_of_ble_eq_true rfl) rfl ?_
          refine v_goto (pc := 1254) 23 dL_law_1254 (by decide) ?_
          exact V_sub [1, 2, 3, 4, 0] rfl (ih hF hb0 hf)
        · replace hf := it_f c112 hf
          refine v_iconst (pc := 505) (0 : Int32) dL_law_505 ci_0 ?_
          exact absurd (Option.some.inj hf) (by decide)
      replace hf := it_f c10 hf
      by_cases c11 : (xs l4.toNatClampNeg) &&& (63 : Int32) = (8 : Int32)
      · replace hf := it_t c11 hf
        refine v_tsIn (8 : Int32) 507 dL_law_40 c11 (by decide) (by decide) rfl (by decide) ?_
        refine v_aload_n (pc := 507) 1 dL_law_507 rfl ?_
        refine v_aload_n (pc := 508) 0 dL_law_508 rfl ?_
        refine v_iload (pc := 509) 4 dL_law_509 rfl ?_
        refine v_iconst (pc := 511) (1 : Int32) dL_law_511 ci_1 ?_
        refine v_iadd (pc := 512) dL_law_512 ?_
        replace hf := gd_some hf; obtain ⟨g113, hf⟩ := hf
        refine V_sld (pc := 513) hF g113 dL_law_513 ?_
        replace hf := bd_some hf; obtain ⟨r114, h115, hf⟩ := hf
        refine V_call (pc := 514) (us1 := [_, _, _, _, _, _, _, _, _, _, _, _, _, _, _, _, _, _, _, _, _, _, _, _, _, _, _, _, _, _]) [0, 3, 2] 0 (kX10_now  h115) rfl rfl rfl rfl rfl rfl (Nat.le_of_ble_eq_true rfl) rfl rfl rfl wm_RL_62 md_X10_now (Nat.le_of_ble_eq_true rfl) (Nat.le_of_ble_eq_true rfl) rfl rfl (Nat.le_of_ble_eq_true rfl) dL_law_514 ?_
        refine v_aload_n (pc := 517) 2 dL_law_517 rfl ?_
        refine v_aload_n (pc := 518) 0 dL_law_518 rfl ?_
        refine v_iload (pc := 519) 4 dL_law_519 rfl ?_
        refine v_iconst (pc := 521) (1 : Int32) dL_law_521 ci_1 ?_
        refine v_iadd (pc := 522) dL_law_522 ?_
        replace hf := gd_some hf; obtain ⟨g116, hf⟩ := hf
        refine V_sld (pc := 523) hF g116 dL_law_523 ?_
        replace hf := bd_some hf; obtain ⟨r117, h118, hf⟩ := hf
        refine V_call (pc := 524) (us1 := [_, _, _, _, _, _, _, _, _, _, _, _, _, _, _, _, _, _, _, _, _, _, _, _, _, _, _, _, _, _]) [28] 28 (kX11_now (o := 28) rfl h118) rfl rfl rfl rfl rfl rfl (Nat.le_of_ble_eq_true rfl) rfl rfl rfl wm_RL_66 md_X11_now (Nat.le_of_ble_eq_true rfl) (Nat.le_of_ble_eq_true rfl) rfl rfl (Nat.le_of_ble_eq_true rfl) dL_law_524 ?_
        refine v_icmp_eq (pc := 527) 1251 dL_law_527 (by decide) (fun c119 => ?_) (fun c119 => ?_)
        · replace hf := it_t c119 hf
          refine v_iinc (pc := 1251) 4 (l4 + (6 : Int32)) [(4, _), (0, _), (1, _), (2, _), (3, _)] dL_law_1251 rfl (congrArg (fun z => _ + z) ci_6) (Nat.le_of_ble_eq_true rfl) rfl ?_
          refine v_goto (pc := 1254) 23 dL_law_1254 (by decide) ?_
          exact V_sub [1, 2, 3, 4, 0] rfl (ih hF hb0 hf)
        · replace hf := it_f c119 hf
          refine v_iconst (pc := 530) (0 : Int32) dL_law_530 ci_0 ?_
          exact absurd (Option.some.inj hf) (by decide)
      replace hf := it_f c11 hf
      by_cases c12 : (xs l4.toNatClampNeg) &&& (63 : Int32) = (9 : Int32)
      · replace hf := it_t c12 hf
        refine v_tsIn (9 : Int32) 532 dL_law_40 c12 (by decide) (by decide) rfl (by decide) ?_
        refine v_aload_n (pc := 532) 1 dL_law_532 rfl ?_
        refine v_aload_n (pc := 533) 0 dL_law_533 rfl ?_
        refine v_iload (pc := 534) 4 dL_law_534 rfl ?_
        refine v_iconst (pc := 536) (1 : Int32) dL_law_536 ci_1 ?_
        refine v_iadd (pc := 537) dL_law_537 ?_
        replace hf := gd_some hf; obtain ⟨g120, hf⟩ := hf
        refine V_sld (pc := 538) hF g120 dL_law_538 ?_
        refine v_aload_n (pc := 539) 0 dL_law_539 rfl ?_
        refine v_iload (pc := 540) 4 dL_law_540 rfl ?_
        refine v_iconst (pc := 542) (2 : Int32) dL_law_542 ci_2 ?_
        refine v_iadd (pc := 543) dL_law_543 ?_
        replace hf := gd_some hf; obtain ⟨g121, hf⟩ := hf
        refine V_sld (pc := 544) hF g121 dL_law_544 ?_
        replace hf := bd_some hf; obtain ⟨r122, h123, hf⟩ := hf
        refine V_call (pc := 545) (us1 := [_, _, _, _, _, _, _, _, _, _, _, _, _, _, _, _, _, _, _, _, _, _, _, _, _, _, _, _, _, _]) [0, 2, 3, 5, 12, 13, 14, 15, 16, 17, 18, 19] 0 (kX10_stroke  h123) rfl rfl rfl rfl rfl rfl (Nat.le_of_ble_eq_true rfl) rfl rfl rfl wm_RL_67 md_X10_stroke (Nat.le_of_ble_eq_true rfl) (Nat.le_of_ble_eq_true rfl) rfl rfl (Nat.le_of_ble_eq_true rfl) dL_law_545 ?_
        refine v_aload_n (pc := 548) 2 dL_law_548 rfl ?_
        refine v_aload_n (pc := 549) 0 dL_law_549 rfl ?_
        refine v_iload (pc := 550) 4 dL_law_550 rfl ?_
        refine v_iconst (pc := 552) (1 : Int32) dL_law_552 ci_1 ?_
        refine v_iadd (pc := 553) dL_law_553 ?_
        replace hf := gd_some hf; obtain ⟨g124, hf⟩ := hf
        refine V_sld (pc := 554) hF g124 dL_law_554 ?_
        refine v_aload_n (pc := 555) 0 dL_law_555 rfl ?_
        refine v_iload (pc := 556) 4 dL_law_556 rfl ?_
        refine v_iconst (pc := 558) (2 : Int32) dL_law_558 ci_2 ?_
        refine v_iadd (pc := 559) dL_law_559 ?_
        replace hf := gd_some hf; obtain ⟨g125, hf⟩ := hf
        refine V_sld (pc := 560) hF g125 dL_law_560 ?_
        replace hf := bd_some hf; obtain ⟨r126, h127, hf⟩ := hf
        refine V_call (pc := 561) (us1 := [_, _, _, _, _, _, _, _, _, _, _, _, _, _, _, _, _, _, _, _, _, _, _, _, _, _, _, _, _, _]) [28] 28 (kX11_stroke (o := 28) rfl h127) rfl rfl rfl rfl rfl rfl (Nat.le_of_ble_eq_true rfl) rfl rfl rfl wm_RL_70 md_X11_stroke (Nat.le_of_ble_eq_true rfl) (Nat.le_of_ble_eq_true rfl) rfl rfl (Nat.le_of_ble_eq_true rfl) dL_law_561 ?_
        refine v_icmp_eq (pc := 564) 1251 dL_law_564 (by decide) (fun c128 => ?_) (fun c128 => ?_)
        · replace hf := it_t c128 hf
          refine v_iinc (pc := 1251) 4 (l4 + (6 : Int32)) [(4, _), (0, _), (1, _), (2, _), (3, _)] dL_law_1251 rfl (congrArg (fun z => _ + z) ci_6) (Nat.le_of_ble_eq_true rfl) rfl ?_
          refine v_goto (pc := 1254) 23 dL_law_1254 (by decide) ?_
          exact V_sub [1, 2, 3, 4, 0] rfl (ih hF hb0 hf)
        · replace hf := it_f c128 hf
          refine v_iconst (pc := 567) (0 : Int32) dL_law_567 ci_0 ?_
          exact absurd (Option.some.inj hf) (by decide)
      replace hf := it_f c12 hf
      by_cases c13 : (xs l4.toNatClampNeg) &&& (63 : Int32) = (10 : Int32)
      · replace hf := it_t c13 hf
        refine v_tsIn (10 : Int32) 569 dL_law_40 c13 (by decide) (by decide) rfl (by decide) ?_
        refine v_aload_n (pc := 569) 1 dL_law_569 rfl ?_
        refine v_aload_n (pc := 570) 0 dL_law_570 rfl ?_
        refine v_iload (pc := 571) 4 dL_law_571 rfl ?_
        refine v_iconst (pc := 573) (1 : Int32) dL_law_573 ci_1 ?_
        refine v_iadd (pc := 574) dL_law_574 ?_
        replace hf := gd_some hf; obtain ⟨g129, hf⟩ := hf
        refine V_sld (pc := 575) hF g129 dL_law_575 ?_
        replace hf := bd_some hf; obtain ⟨r130, h131, hf⟩ := hf
        refine V_call (pc := 576) (us1 := [_, _, _, _, _, _, _, _, _, _, _, _, _, _, _, _, _, _, _, _, _, _, _, _, _, _, _, _, _, _]) [0, 2, 3, 5, 12, 13, 14, 15, 16, 17, 18, 19] 0 (kX10_cut  h131) rfl rfl rfl rfl rfl rfl (Nat.le_of_ble_eq_true rfl) rfl rfl rfl wm_RL_71 md_X10_cut (Nat.le_of_ble_eq_true rfl) (Nat.le_of_ble_eq_true rfl) rfl rfl (Nat.le_of_ble_eq_true rfl) dL_law_576 ?_
        refine v_aload_n (pc := 579) 2 dL_law_579 rfl ?_
        refine v_aload_n (pc := 580) 0 dL_law_580 rfl ?_
        refine v_iload (pc := 581) 4 dL_law_581 rfl ?_
        refine v_iconst (pc := 583) (1 : Int32) dL_law_583 ci_1 ?_
        refine v_iadd (pc := 584) dL_law_584 ?_
        replace hf := gd_some hf; obtain ⟨g132, hf⟩ := hf
        refine V_sld (pc := 585) hF g132 dL_law_585 ?_
        replace hf := bd_some hf; obtain ⟨r133, h134, hf⟩ := hf
        refine V_call (pc := 586) (us1 := [_, _, _, _, _, _, _, _, _, _, _, _, _, _, _, _, _, _, _, _, _, _, _, _, _, _, _, _, _, _]) [28] 28 (kX11_cut (o := 28) rfl h134) rfl rfl rfl rfl rfl rfl (Nat.le_of_ble_eq_true rfl) rfl rfl rfl wm_RL_74 md_X11_cut (Nat.le_of_ble_eq_true rfl) (Nat.le_of_ble_eq_true rfl) rfl rfl (Nat.le_of_ble_eq_true rfl) dL_law_586 ?_
        refine v_icmp_eq (pc := 589) 1251 dL_law_589 (by decide) (fun c135 => ?_) (fun c135 => ?_)
        · replace hf := it_t c135 hf
          refine v_iinc (pc := 1251) 4 (l4 + (6 : Int32)) [(4, _), (0, _), (1, _), (2, _), (3, _)] dL_law_1251 rfl (congrArg (fun z => _ + z) ci_6) (Nat.le_of_ble_eq_true rfl) rfl ?_
          refine v_goto (pc := 1254) 23 dL_law_1254 (by decide) ?_
          exact V_sub [1, 2, 3, 4, 0] rfl (ih hF hb0 hf)
        · replace hf := it_f c135 hf
          refine v_iconst (pc := 592) (0 : Int32) dL_law_592 ci_0 ?_
          exact absurd (Option.some.inj hf) (by decide)
      replace hf := it_f c13 hf
      by_cases c14 : (xs l4.toNatClampNeg) &&& (63 : Int32) = (11 : Int32)
      · replace hf := it_t c14 hf
        refine v_tsIn (11 : Int32) 594 dL_law_40 c14 (by decide) (by decide) rfl (by decide) ?_
        refine v_aload_n (pc := 594) 1 dL_law_594 rfl ?_
        refine v_aload_n (pc := 595) 0 dL_law_595 rfl ?_
        refine v_iload (pc := 596) 4 dL_law_596 rfl ?_
        refine v_iconst (pc := 598) (1 : Int32) dL_law_598 ci_1 ?_
        refine v_iadd (pc := 599) dL_law_599 ?_
        replace hf := gd_some hf; obtain ⟨g136, hf⟩ := hf
        refine V_sld (pc := 600) hF g136 dL_law_600 ?_
        refine v_aload_n (pc := 601) 0 dL_law_601 rfl ?_
        refine v_iload (pc := 602) 4 dL_law_602 rfl ?_
        refine v_iconst (pc := 604) (2 : Int32) dL_law_604 ci_2 ?_
        refine v_iadd (pc := 605) dL_law_605 ?_
        replace hf := gd_some hf; obtain ⟨g137, hf⟩ := hf
        refine V_sld (pc := 606) hF g137 dL_law_606 ?_
        replace hf := bd_some hf; obtain ⟨r138, h139, hf⟩ := hf
        refine V_call (pc := 607) (us1 := [_, _, _, _, _, _, _, _, _, _, _, _, _, _, _, _, _, _, _, _, _, _, _, _, _, _, _, _, _, _]) [0, 2, 3, 5, 12, 13, 14, 15, 16, 17, 18, 19] 0 (kX10_snag  h139) rfl rfl rfl rfl rfl rfl (Nat.le_of_ble_eq_true rfl) rfl rfl rfl wm_RL_75 md_X10_snag (Nat.le_of_ble_eq_true rfl) (Nat.le_of_ble_eq_true rfl) rfl rfl (Nat.le_of_ble_eq_true rfl) dL_law_607 ?_
        refine v_aload_n (pc := 610) 2 dL_law_610 rfl ?_
        refine v_aload_n (pc := 611) 0 dL_law_611 rfl ?_
        refine v_iload (pc := 612) 4 dL_law_612 rfl ?_
        refine v_iconst (pc := 614) (1 : Int32) dL_law_614 ci_1 ?_
        refine v_iadd (pc := 615) dL_law_615 ?_
        replace hf := gd_some hf; obtain ⟨g140, hf⟩ := hf
        refine V_sld (pc := 616) hF g140 dL_law_616 ?_
        refine v_aload_n (pc := 617) 0 dL_law_617 rfl ?_
        refine v_iload (pc := 618) 4 dL_law_618 rfl ?_
        refine v_iconst (pc := 620) (2 : Int32) dL_law_620 ci_2 ?_
        refine v_iadd (pc := 621) dL_law_621 ?_
        replace hf := gd_some hf; obtain ⟨g141, hf⟩ := hf
        refine V_sld (pc := 622) hF g141 dL_law_622 ?_
        replace hf := bd_some hf; obtain ⟨r142, h143, hf⟩ := hf
        refine V_call (pc := 623) (us1 := [_, _, _, _, _, _, _, _, _, _, _, _, _, _, _, _, _, _, _, _, _, _, _, _, _, _, _, _, _, _]) [28] 28 (kX11_snag (o := 28) rfl h143) rfl rfl rfl rfl rfl rfl (Nat.le_of_ble_eq_true rfl) rfl rfl rfl wm_RL_78 md_X11_snag (Nat.le_of_ble_eq_true rfl) (Nat.le_of_ble_eq_true rfl) rfl rfl (Nat.le_of_ble_eq_true rfl) dL_law_623 ?_
        refine v_icmp_eq (pc := 626) 1251 dL_law_626 (by decide) (fun c144 => ?_) (fun c144 => ?_)
        · replace hf := it_t c144 hf
          refine v_iinc (pc := 1251) 4 (l4 + (6 : Int32)) [(4, _), (0, _), (1, _), (2, _), (3, _)] dL_law_1251 rfl (congrArg (fun z => _ + z) ci_6) (Nat.le_of_ble_eq_true rfl) rfl ?_
          refine v_goto (pc := 1254) 23 dL_law_1254 (by decide) ?_
          exact V_sub [1, 2, 3, 4, 0] rfl (ih hF hb0 hf)
        · replace hf := it_f c144 hf
          refine v_iconst (pc := 629) (0 : Int32) dL_law_629 ci_0 ?_
          exact absurd (Option.some.inj hf) (by decide)
      replace hf := it_f c14 hf
      by_cases c15 : (xs l4.toNatClampNeg) &&& (63 : Int32) = (12 : Int32)
      · replace hf := it_t c15 hf
        refine v_tsIn (12 : Int32) 631 dL_law_40 c15 (by decide) (by decide) rfl (by decide) ?_
        refine v_aload_n (pc := 631) 1 dL_law_631 rfl ?_
        refine v_aload_n (pc := 632) 0 dL_law_632 rfl ?_
        refine v_iload (pc := 633) 4 dL_law_633 rfl ?_
        refine v_iconst (pc := 635) (1 : Int32) dL_law_635 ci_1 ?_
        refine v_iadd (pc := 636) dL_law_636 ?_
        replace hf := gd_some hf; obtain ⟨g145, hf⟩ := hf
        refine V_sld (pc := 637) hF g145 dL_law_637 ?_
        refine v_aload_n (pc := 638) 0 dL_law_638 rfl ?_
        refine v_iload (pc := 639) 4 dL_law_639 rfl ?_
        refine v_iconst (pc := 641) (2 : Int32) dL_law_641 ci_2 ?_
        refine v_iadd (pc := 642) dL_law_642 ?_
        replace hf := gd_some hf; obtain ⟨g146, hf⟩ := hf
        refine V_sld (pc := 643) hF g146 dL_law_643 ?_
        replace hf := bd_some hf; obtain ⟨r147, h148, hf⟩ := hf
        refine V_call (pc := 644) (us1 := [_, _, _, _, _, _, _, _, _, _, _, _, _, _, _, _, _, _, _, _, _, _, _, _, _, _, _, _, _, _]) [0, 2, 3, 5, 12, 13, 14, 15, 16, 17, 18, 19] 0 (kX10_stuff  h148) rfl rfl rfl rfl rfl rfl (Nat.le_of_ble_eq_true rfl) rfl rfl rfl wm_RL_79 md_X10_stuff (Nat.le_of_ble_eq_true rfl) (Nat.le_of_ble_eq_true rfl) rfl rfl (Nat.le_of_ble_eq_true rfl) dL_law_644 ?_
        refine v_aload_n (pc := 647) 2 dL_law_647 rfl ?_
        refine v_aload_n (pc := 648) 0 dL_law_648 rfl ?_
        refine v_iload (pc := 649) 4 dL_law_649 rfl ?_
        refine v_iconst (pc := 651) (1 : Int32) dL_law_651 ci_1 ?_
        refine v_iadd (pc := 652) dL_law_652 ?_
        replace hf := gd_some hf; obtain ⟨g149, hf⟩ := hf
        refine V_sld (pc := 653) hF g149 dL_law_653 ?_
        refine v_aload_n (pc := 654) 0 dL_law_654 rfl ?_
        refine v_iload (pc := 655) 4 dL_law_655 rfl ?_
        refine v_iconst (pc := 657) (2 : Int32) dL_law_657 ci_2 ?_
        refine v_iadd (pc := 658) dL_law_658 ?_
        replace hf := gd_some hf; obtain ⟨g150, hf⟩ := hf
        refine V_sld (pc := 659) hF g150 dL_law_659 ?_
        replace hf := bd_some hf; obtain ⟨r151, h152, hf⟩ := hf
        refine V_call (pc := 660) (us1 := [_, _, _, _, _, _, _, _, _, _, _, _, _, _, _, _, _, _, _, _, _, _, _, _, _, _, _, _, _, _]) [28] 28 (kX11_stuff (o := 28) rfl h152) rfl rfl rfl rfl rfl rfl (Nat.le_of_ble_eq_true rfl) rfl rfl rfl wm_RL_82 md_X11_stuff (Nat.le_of_ble_eq_true rfl) (Nat.le_of_ble_eq_true rfl) rfl rfl (Nat.le_of_ble_eq_true rfl) dL_law_660 ?_
        refine v_icmp_eq (pc := 663) 1251 dL_law_663 (by decide) (fun c153 => ?_) (fun c153 => ?_)
        · replace hf := it_t c153 hf
          refine v_iinc (pc := 1251) 4 (l4 + (6 : Int32)) [(4, _), (0, _), (1, _), (2, _), (3, _)] dL_law_1251 rfl (congrArg (fun z => _ + z) ci_6) (Nat.le_of_ble_eq_true rfl) rfl ?_
          refine v_goto (pc := 1254) 23 dL_law_1254 (by decide) ?_
          exact V_sub [1, 2, 3, 4, 0] rfl (ih hF hb0 hf)
        · replace hf := it_f c153 hf
          refine v_iconst (pc := 666) (0 : Int32) dL_law_666 ci_0 ?_
          exact absurd (Option.some.inj hf) (by decide)
      replace hf := it_f c15 hf
      by_cases c16 : (xs l4.toNatClampNeg) &&& (63 : Int32) = (13 : Int32)
      · replace hf := it_t c16 hf
        refine v_tsIn (13 : Int32) 668 dL_law_40 c16 (by decide) (by decide) rfl (by decide) ?_
        refine v_aload_n (pc := 668) 1 dL_law_668 rfl ?_
        refine v_aload_n (pc := 669) 0 dL_law_669 rfl ?_
        refine v_iload (pc := 670) 4 dL_law_670 rfl ?_
        refine v_iconst (pc := 672) (1 : Int32) dL_law_672 ci_1 ?_
        refine v_iadd (pc := 673) dL_law_673 ?_
        replace hf := gd_some hf; obtain ⟨g154, hf⟩ := hf
        refine V_sld (pc := 674) hF g154 dL_law_674 ?_
        replace hf := bd_some hf; obtain ⟨r155, h156, hf⟩ := hf
        refine V_call (pc := 675) (us1 := [_, _, _, _, _, _, _, _, _, _, _, _, _, _, _, _, _, _, _, _, _, _, _, _, _, _, _, _, _, _]) [0, 3, 5, 12, 13, 14, 15, 16, 17, 18, 19, 2] 0 (kX10_days  h156) rfl rfl rfl rfl rfl rfl (Nat.le_of_ble_eq_true rfl) rfl rfl rfl wm_RL_83 md_X10_days (Nat.le_of_ble_eq_true rfl) (Nat.le_of_ble_eq_true rfl) rfl rfl (Nat.le_of_ble_eq_true rfl) dL_law_675 ?_
        refine v_aload_n (pc := 678) 2 dL_law_678 rfl ?_
        refine v_aload_n (pc := 679) 0 dL_law_679 rfl ?_
        refine v_iload (pc := 680) 4 dL_law_680 rfl ?_
        refine v_iconst (pc := 682) (1 : Int32) dL_law_682 ci_1 ?_
        refine v_iadd (pc := 683) dL_law_683 ?_
        replace hf := gd_some hf; obtain ⟨g157, hf⟩ := hf
        refine V_sld (pc := 684) hF g157 dL_law_684 ?_
        replace hf := bd_some hf; obtain ⟨r158, h159, hf⟩ := hf
        refine V_call (pc := 685) (us1 := [_, _, _, _, _, _, _, _, _, _, _, _, _, _, _, _, _, _, _, _, _, _, _, _, _, _, _, _, _, _]) [28] 28 (kX11_days (o := 28) rfl h159) rfl rfl rfl rfl rfl rfl (Nat.le_of_ble_eq_true rfl) rfl rfl rfl wm_RL_86 md_X11_days (Nat.le_of_ble_eq_true rfl) (Nat.le_of_ble_eq_true rfl) rfl rfl (Nat.le_of_ble_eq_true rfl) dL_law_685 ?_
        refine v_icmp_eq (pc := 688) 1251 dL_law_688 (by decide) (fun c160 => ?_) (fun c160 => ?_)
        · replace hf := it_t c160 hf
          refine v_iinc (pc := 1251) 4 (l4 + (6 : Int32)) [(4, _), (0, _), (1, _), (2, _), (3, _)] dL_law_1251 rfl (congrArg (fun z => _ + z) ci_6) (Nat.le_of_ble_eq_true rfl) rfl ?_
          refine v_goto (pc := 1254) 23 dL_law_1254 (by decide) ?_
          exact V_sub [1, 2, 3, 4, 0] rfl (ih hF hb0 hf)
        · replace hf := it_f c160 hf
          refine v_iconst (pc := 691) (0 : Int32) dL_law_691 ci_0 ?_
          exact absurd (Option.some.inj hf) (by decide)
      replace hf := it_f c16 hf
      by_cases c17 : (xs l4.toNatClampNeg) &&& (63 : Int32) = (14 : Int32)
      · replace hf := it_t c17 hf
        refine v_tsIn (14 : Int32) 693 dL_law_40 c17 (by decide) (by decide) rfl (by decide) ?_
        refine v_aload_n (pc := 693) 1 dL_law_693 rfl ?_
        replace hf := bd_some hf; obtain ⟨r161, h162, hf⟩ := hf
        refine V_call (pc := 694) (us1 := [_, _, _, _, _, _, _, _, _, _, _, _, _, _, _, _, _, _, _, _, _, _, _, _, _, _, _, _, _, _]) [0, 5, 3, 12, 13, 14, 15, 16, 17, 18, 19] 0 (kX10_undo  h162) rfl rfl rfl rfl rfl rfl (Nat.le_of_ble_eq_true rfl) rfl rfl rfl wm_RL_87 md_X10_undo (Nat.le_of_ble_eq_true rfl) (Nat.le_of_ble_eq_true rfl) rfl rfl (Nat.le_of_ble_eq_true rfl) dL_law_694 ?_
        refine v_aload_n (pc := 697) 2 dL_law_697 rfl ?_
        replace hf := bd_some hf; obtain ⟨r163, h164, hf⟩ := hf
        refine V_call (pc := 698) (us1 := [_, _, _, _, _, _, _, _, _, _, _, _, _, _, _, _, _, _, _, _, _, _, _, _, _, _, _, _, _, _]) [28] 28 (kX11_undo (o := 28) rfl h164) rfl rfl rfl rfl rfl rfl (Nat.le_of_ble_eq_true rfl) rfl rfl rfl wm_RL_90 md_X11_undo (Nat.le_of_ble_eq_true rfl) (Nat.le_of_ble_eq_true rfl) rfl rfl (Nat.le_of_ble_eq_true rfl) dL_law_698 ?_
        refine v_icmp_eq (pc := 701) 1251 dL_law_701 (by decide) (fun c165 => ?_) (fun c165 => ?_)
        · replace hf := it_t c165 hf
          refine v_iinc (pc := 1251) 4 (l4 + (6 : Int32)) [(4, _), (0, _), (1, _), (2, _), (3, _)] dL_law_1251 rfl (congrArg (fun z => _ + z) ci_6) (Nat.le_of_ble_eq_true rfl) rfl ?_
          refine v_goto (pc := 1254) 23 dL_law_1254 (by decide) ?_
          exact V_sub [1, 2, 3, 4, 0] rfl (ih hF hb0 hf)
        · replace hf := it_f c165 hf
          refine v_iconst (pc := 704) (0 : Int32) dL_law_704 ci_0 ?_
          exact absurd (Option.some.inj hf) (by decide)
      replace hf := it_f c17 hf
      by_cases c18 : (xs l4.toNatClampNeg) &&& (63 : Int32) = (15 : Int32)
      · replace hf := it_t c18 hf
        refine v_tsIn (15 : Int32) 706 dL_law_40 c18 (by decide) (by decide) rfl (by decide) ?_
        refine v_aload_n (pc := 706) 1 dL_law_706 rfl ?_
        refine v_aload_n (pc := 707) 0 dL_law_707 rfl ?_
        refine v_iload (pc := 708) 4 dL_law_708 rfl ?_
        refine v_iconst (pc := 710) (1 : Int32) dL_law_710 ci_1 ?_
        refine v_iadd (pc := 711) dL_law_711 ?_
        replace hf := gd_some hf; obtain ⟨g166, hf⟩ := hf
        refine V_sld (pc := 712) hF g166 dL_law_712 ?_
        replace hf := bd_some hf; obtain ⟨r167, h168, hf⟩ := hf
        refine V_call (pc := 713) (us1 := [_, _, _, _, _, _, _, _, _, _, _, _, _, _, _, _, _, _, _, _, _, _, _, _, _, _, _, _, _, _]) [0, 2, 6, 3] 0 (kX10_ease  h168) rfl rfl rfl rfl rfl rfl (Nat.le_of_ble_eq_true rfl) rfl rfl rfl wm_RL_91 md_X10_ease (Nat.le_of_ble_eq_true rfl) (Nat.le_of_ble_eq_true rfl) rfl rfl (Nat.le_of_ble_eq_true rfl) dL_law_713 ?_
        refine v_aload_n (pc := 716) 2 dL_law_716 rfl ?_
        refine v_aload_n (pc := 717) 0 dL_law_717 rfl ?_
        refine v_iload (pc := 718) 4 dL_law_718 rfl ?_
        refine v_iconst (pc := 720) (1 : Int32) dL_law_720 ci_1 ?_
        refine v_iadd (pc := 721) dL_law_721 ?_
        replace hf := gd_some hf; obtain ⟨g169, hf⟩ := hf
        refine V_sld (pc := 722) hF g169 dL_law_722 ?_
        replace hf := bd_some hf; obtain ⟨r170, h171, hf⟩ := hf
        refine V_call (pc := 723) (us1 := [_, _, _, _, _, _, _, _, _, _, _, _, _, _, _, _, _, _, _, _, _, _, _, _, _, _, _, _, _, _]) [28] 28 (kX11_ease (o := 28) rfl h171) rfl rfl rfl rfl rfl rfl (Nat.le_of_ble_eq_true rfl) rfl rfl rfl wm_RL_94 md_X11_ease (Nat.le_of_ble_eq_true rfl) (Nat.le_of_ble_eq_true rfl) rfl rfl (Nat.le_of_ble_eq_true rfl) dL_law_723 ?_
        refine v_icmp_eq (pc := 726) 1251 dL_law_726 (by decide) (fun c172 => ?_) (fun c172 => ?_)
        · replace hf := it_t c172 hf
          refine v_iinc (pc := 1251) 4 (l4 + (6 : Int32)) [(4, _), (0, _), (1, _), (2, _), (3, _)] dL_law_1251 rfl (congrArg (fun z => _ + z) ci_6) (Nat.le_of_ble_eq_true rfl) rfl ?_
          refine v_goto (pc := 1254) 23 dL_law_1254 (by decide) ?_
          exact V_sub [1, 2, 3, 4, 0] rfl (ih hF hb0 hf)
        · replace hf := it_f c172 hf
          refine v_iconst (pc := 729) (0 : Int32) dL_law_729 ci_0 ?_
          exact absurd (Option.some.inj hf) (by decide)
      replace hf := it_f c18 hf
      by_cases c19 : (xs l4.toNatClampNeg) &&& (63 : Int32) = (16 : Int32)
      · replace hf := it_t c19 hf
        refine v_tsIn (16 : Int32) 731 dL_law_40 c19 (by decide) (by decide) rfl (by decide) ?_
        refine v_aload_n (pc := 731) 1 dL_law_731 rfl ?_
        refine v_aload_n (pc := 732) 0 dL_law_732 rfl ?_
        refine v_iload (pc := 733) 4 dL_law_733 rfl ?_
        refine v_iconst (pc := 735) (1 : Int32) dL_law_735 ci_1 ?_
        refine v_iadd (pc := 736) dL_law_736 ?_
        replace hf := gd_some hf; obtain ⟨g173, hf⟩ := hf
        refine V_sld (pc := 737) hF g173 dL_law_737 ?_
        replace hf := bd_some hf; obtain ⟨r174, h175, hf⟩ := hf
        refine V_call (pc := 738) (us1 := [_, _, _, _, _, _, _, _, _, _, _, _, _, _, _, _, _, _, _, _, _, _, _, _, _, _, _, _, _, _]) [0, 2, 6, 3] 0 (kX10_nests  h175) rfl rfl rfl rfl rfl rfl (Nat.le_of_ble_eq_true rfl) rfl rfl rfl wm_RL_95 md_X10_nests (Nat.le_of_ble_eq_true rfl) (Nat.le_of_ble_eq_true rfl) rfl rfl (Nat.le_of_ble_eq_true rfl) dL_law_738 ?_
        refine v_aload_n (pc := 741) 2 dL_law_741 rfl ?_
        refine v_aload_n (pc := 742) 0 dL_law_742 rfl ?_
        refine v_iload (pc := 743) 4 dL_law_743 rfl ?_
        refine v_iconst (pc := 745) (1 : Int32) dL_law_745 ci_1 ?_
        refine v_iadd (pc := 746) dL_law_746 ?_
        replace hf := gd_some hf; obtain ⟨g176, hf⟩ := hf
        refine V_sld (pc := 747) hF g176 dL_law_747 ?_
        replace hf := bd_some hf; obtain ⟨r177, h178, hf⟩ := hf
        refine V_call (pc := 748) (us1 := [_, _, _, _, _, _, _, _, _, _, _, _, _, _, _, _, _, _, _, _, _, _, _, _, _, _, _, _, _, _]) [28] 28 (kX11_nests (o := 28) rfl h178) rfl rfl rfl rfl rfl rfl (Nat.le_of_ble_eq_true rfl) rfl rfl rfl wm_RL_98 md_X11_nests (Nat.le_of_ble_eq_true rfl) (Nat.le_of_ble_eq_true rfl) rfl rfl (Nat.le_of_ble_eq_true rfl) dL_law_748 ?_
        refine v_icmp_eq (pc := 751) 1251 dL_law_751 (by decide) (fun c179 => ?_) (fun c179 => ?_)
        · replace hf := it_t c179 hf
          refine v_iinc (pc := 1251) 4 (l4 + (6 : Int32)) [(4, _), (0, _), (1, _), (2, _), (3, _)] dL_law_1251 rfl (congrArg (fun z => _ + z) ci_6) (Nat.le_of_ble_eq_true rfl) rfl ?_
          refine v_goto (pc := 1254) 23 dL_law_1254 (by decide) ?_
          exact V_sub [1, 2, 3, 4, 0] rfl (ih hF hb0 hf)
        · replace hf := it_f c179 hf
          refine v_iconst (pc := 754) (0 : Int32) dL_law_754 ci_0 ?_
          exact absurd (Option.some.inj hf) (by decide)
      replace hf := it_f c19 hf
      by_cases c20 : (xs l4.toNatClampNeg) &&& (63 : Int32) = (17 : Int32)
      · replace hf := it_t c20 hf
        refine v_tsIn (17 : Int32) 756 dL_law_40 c20 (by decide) (by decide) rfl (by decide) ?_
        refine v_aload_n (pc := 756) 1 dL_law_756 rfl ?_
        refine v_aload_n (pc := 757) 0 dL_law_757 rfl ?_
        refine v_iload (pc := 758) 4 dL_law_758 rfl ?_
        refine v_iconst (pc := 760) (1 : Int32) dL_law_760 ci_1 ?_
        refine v_iadd (pc := 761) dL_law_761 ?_
        replace hf := gd_some hf; obtain ⟨g180, hf⟩ := hf
        refine V_sld (pc := 762) hF g180 dL_law_762 ?_
        replace hf := bd_some hf; obtain ⟨r181, h182, hf⟩ := hf
        refine V_call (pc := 763) (us1 := [_, _, _, _, _, _, _, _, _, _, _, _, _, _, _, _, _, _, _, _, _, _, _, _, _, _, _, _, _, _]) [0, 6, 2, 3] 0 (kX10_round  h182) rfl rfl rfl rfl rfl rfl (Nat.le_of_ble_eq_true rfl) rfl rfl rfl wm_RL_99 md_X10_round (Nat.le_of_ble_eq_true rfl) (Nat.le_of_ble_eq_true rfl) rfl rfl (Nat.le_of_ble_eq_true rfl) dL_law_763 ?_
        refine v_aload_n (pc := 766) 2 dL_law_766 rfl ?_
        refine v_aload_n (pc := 767) 0 dL_law_767 rfl ?_
        refine v_iload (pc := 768) 4 dL_law_768 rfl ?_
        refine v_iconst (pc := 770) (1 : Int32) dL_law_770 ci_1 ?_
        refine v_iadd (pc := 771) dL_law_771 ?_
        replace hf := gd_some hf; obtain ⟨g183, hf⟩ := hf
        refine V_sld (pc := 772) hF g183 dL_law_772 ?_
        replace hf := bd_some hf; obtain ⟨r184, h185, hf⟩ := hf
        refine V_call (pc := 773) (us1 := [_, _, _, _, _, _, _, _, _, _, _, _, _, _, _, _, _, _, _, _, _, _, _, _, _, _, _, _, _, _]) [28] 28 (kX11_round (o := 28) rfl h185) rfl rfl rfl rfl rfl rfl (Nat.le_of_ble_eq_true rfl) rfl rfl rfl wm_RL_102 md_X11_round (Nat.le_of_ble_eq_true rfl) (Nat.le_of_ble_eq_true rfl) rfl rfl (Nat.le_of_ble_eq_true rfl) dL_law_773 ?_
        refine v_icmp_eq (pc := 776) 1251 dL_law_776 (by decide) (fun c186 => ?_) (fun c186 => ?_)
        · replace hf := it_t c186 hf
          refine v_iinc (pc := 1251) 4 (l4 + (6 : Int32)) [(4, _), (0, _), (1, _), (2, _), (3, _)] dL_law_1251 rfl (congrArg (fun z => _ + z) ci_6) (Nat.le_of_ble_eq_true rfl) rfl ?_
          refine v_goto (pc := 1254) 23 dL_law_1254 (by decide) ?_
          exact V_sub [1, 2, 3, 4, 0] rfl (ih hF hb0 hf)
        · replace hf := it_f c186 hf
          refine v_iconst (pc := 779) (0 : Int32) dL_law_779 ci_0 ?_
          exact absurd (Option.some.inj hf) (by decide)
      replace hf := it_f c20 hf
      by_cases c21 : (xs l4.toNatClampNeg) &&& (63 : Int32) = (18 : Int32)
      · replace hf := it_t c21 hf
        refine v_tsIn (18 : Int32) 781 dL_law_40 c21 (by decide) (by decide) rfl (by decide) ?_
        refine v_aload_n (pc := 781) 1 dL_law_781 rfl ?_
        replace hf := bd_some hf; obtain ⟨r187, h188, hf⟩ := hf
        refine V_call (pc := 782) (us1 := [_, _, _, _, _, _, _, _, _, _, _, _, _, _, _, _, _, _, _, _, _, _, _, _, _, _, _, _, _, _]) [0] 0 (kX10_rounded  h188) rfl rfl rfl rfl rfl rfl (Nat.le_of_ble_eq_true rfl) rfl rfl rfl wm_RL_103 md_X10_rounded (Nat.le_of_ble_eq_true rfl) (Nat.le_of_ble_eq_true rfl) rfl rfl (Nat.le_of_ble_eq_true rfl) dL_law_782 ?_
        refine v_aload_n (pc := 785) 2 dL_law_785 rfl ?_
        replace hf := bd_some hf; obtain ⟨r189, h190, hf⟩ := hf
        refine V_call (pc := 786) (us1 := [_, _, _, _, _, _, _, _, _, _, _, _, _, _, _, _, _, _, _, _, _, _, _, _, _, _, _, _, _, _]) [28] 28 (kX11_rounded (o := 28) rfl h190) rfl rfl rfl rfl rfl rfl (Nat.le_of_ble_eq_true rfl) rfl rfl rfl wm_RL_106 md_X11_rounded (Nat.le_of_ble_eq_true rfl) (Nat.le_of_ble_eq_true rfl) rfl rfl (Nat.le_of_ble_eq_true rfl) dL_law_786 ?_
        refine v_icmp_eq (pc := 789) 1251 dL_law_789 (by decide) (fun c191 => ?_) (fun c191 => ?_)
        · replace hf := it_t c191 hf
          refine v_iinc (pc := 1251) 4 (l4 + (6 : Int32)) [(4, _), (0, _), (1, _), (2, _), (3, _)] dL_law_1251 rfl (congrArg (fun z => _ + z) ci_6) (Nat.le_of_ble_eq_true rfl) rfl ?_
          refine v_goto (pc := 1254) 23 dL_law_1254 (by decide) ?_
          exact V_sub [1, 2, 3, 4, 0] rfl (ih hF hb0 hf)
        · replace hf := it_f c191 hf
          refine v_iconst (pc := 792) (0 : Int32) dL_law_792 ci_0 ?_
          exact absurd (Option.some.inj hf) (by decide)
      replace hf := it_f c21 hf
      by_cases c22 : (xs l4.toNatClampNeg) &&& (63 : Int32) = (19 : Int32)
      · replace hf := it_t c22 hf
        refine v_tsIn (19 : Int32) 794 dL_law_40 c22 (by decide) (by decide) rfl (by decide) ?_
        refine v_aload_n (pc := 794) 1 dL_law_794 rfl ?_
        replace hf := bd_some hf; obtain ⟨r192, h193, hf⟩ := hf
        refine V_call (pc := 795) (us1 := [_, _, _, _, _, _, _, _, _, _, _, _, _, _, _, _, _, _, _, _, _, _, _, _, _, _, _, _, _, _]) [0, 6, 2, 3] 0 (kX10_beds  h193) rfl rfl rfl rfl rfl rfl (Nat.le_of_ble_eq_true rfl) rfl rfl rfl wm_RL_107 md_X10_beds (Nat.le_of_ble_eq_true rfl) (Nat.le_of_ble_eq_true rfl) rfl rfl (Nat.le_of_ble_eq_true rfl) dL_law_795 ?_
        refine v_aload_n (pc := 798) 2 dL_law_798 rfl ?_
        replace hf := bd_some hf; obtain ⟨r194, h195, hf⟩ := hf
        refine V_call (pc := 799) (us1 := [_, _, _, _, _, _, _, _, _, _, _, _, _, _, _, _, _, _, _, _, _, _, _, _, _, _, _, _, _, _]) [28] 28 (kX11_beds (o := 28) rfl h195) rfl rfl rfl rfl rfl rfl (Nat.le_of_ble_eq_true rfl) rfl rfl rfl wm_RL_110 md_X11_beds (Nat.le_of_ble_eq_true rfl) (Nat.le_of_ble_eq_true rfl) rfl rfl (Nat.le_of_ble_eq_true rfl) dL_law_799 ?_
        refine v_icmp_eq (pc := 802) 1251 dL_law_802 (by decide) (fun c196 => ?_) (fun c196 => ?_)
        · replace hf := it_t c196 hf
          refine v_iinc (pc := 1251) 4 (l4 + (6 : Int32)) [(4, _), (0, _), (1, _), (2, _), (3, _)] dL_law_1251 rfl (congrArg (fun z => _ + z) ci_6) (Nat.le_of_ble_eq_true rfl) rfl ?_
          refine v_goto (pc := 1254) 23 dL_law_1254 (by decide) ?_
          exact V_sub [1, 2, 3, 4, 0] rfl (ih hF hb0 hf)
        · replace hf := it_f c196 hf
          refine v_iconst (pc := 805) (0 : Int32) dL_law_805 ci_0 ?_
          exact absurd (Option.some.inj hf) (by decide)
      replace hf := it_f c22 hf
      by_cases c23 : (xs l4.toNatClampNeg) &&& (63 : Int32) = (20 : Int32)
      · replace hf := it_t c23 hf
        refine v_tsIn (20 : Int32) 807 dL_law_40 c23 (by decide) (by decide) rfl (by decide) ?_
        refine v_aload_n (pc := 807) 1 dL_law_807 rfl ?_
        replace hf := bd_some hf; obtain ⟨r197, h198, hf⟩ := hf
        refine V_call (pc := 808) (us1 := [_, _, _, _, _, _, _, _, _, _, _, _, _, _, _, _, _, _, _, _, _, _, _, _, _, _, _, _, _, _]) [0] 0 (kX10_bedded  h198) rfl rfl rfl rfl rfl rfl (Nat.le_of_ble_eq_true rfl) rfl rfl rfl wm_RL_111 md_X10_bedded (Nat.le_of_ble_eq_true rfl) (Nat.le_of_ble_eq_true rfl) rfl rfl (Nat.le_of_ble_eq_true rfl) dL_law_808 ?_
        refine v_aload_n (pc := 811) 2 dL_law_811 rfl ?_
        replace hf := bd_some hf; obtain ⟨r199, h200, hf⟩ := hf
        refine V_call (pc := 812) (us1 := [_, _, _, _, _, _, _, _, _, _, _, _, _, _, _, _, _, _, _, _, _, _, _, _, _, _, _, _, _, _]) [28] 28 (kX11_bedded (o := 28) rfl h200) rfl rfl rfl rfl rfl rfl (Nat.le_of_ble_eq_true rfl) rfl rfl rfl wm_RL_114 md_X11_bedded (Nat.le_of_ble_eq_true rfl) (Nat.le_of_ble_eq_true rfl) rfl rfl (Nat.le_of_ble_eq_true rfl) dL_law_812 ?_
        refine v_icmp_eq (pc := 815) 1251 dL_law_815 (by decide) (fun c201 => ?_) (fun c201 => ?_)
        · replace hf := it_t c201 hf
          refine v_iinc (pc := 1251) 4 (l4 + (6 : Int32)) [(4, _), (0, _), (1, _), (2, _), (3, _)] dL_law_1251 rfl (congrArg (fun z => _ + z) ci_6) (Nat.le_of_ble_eq_true rfl) rfl ?_
          refine v_goto (pc := 1254) 23 dL_law_1254 (by decide) ?_
          exact V_sub [1, 2, 3, 4, 0] rfl (ih hF hb0 hf)
        · replace hf := it_f c201 hf
          refine v_iconst (pc := 818) (0 : Int32) dL_law_818 ci_0 ?_
          exact absurd (Option.some.inj hf) (by decide)
      replace hf := it_f c23 hf
      by_cases c24 : (xs l4.toNatClampNeg) &&& (63 : Int32) = (21 : Int32)
      · replace hf := it_t c24 hf
        refine v_tsIn (21 : Int32) 820 dL_law_40 c24 (by decide) (by decide) rfl (by decide) ?_
        refine v_aload_n (pc := 820) 1 dL_law_820 rfl ?_
        replace hf := bd_some hf; obtain ⟨r202, h203, hf⟩ := hf
        refine V_call (pc := 821) (us1 := [_, _, _, _, _, _, _, _, _, _, _, _, _, _, _, _, _, _, _, _, _, _, _, _, _, _, _, _, _, _]) [0, 1, 2, 3, 6] 0 (kX10_fits  h203) rfl rfl rfl rfl rfl rfl (Nat.le_of_ble_eq_true rfl) rfl rfl rfl wm_RL_115 md_X10_fits (Nat.le_of_ble_eq_true rfl) (Nat.le_of_ble_eq_true rfl) rfl rfl (Nat.le_of_ble_eq_true rfl) dL_law_821 ?_
        refine v_aload_n (pc := 824) 2 dL_law_824 rfl ?_
        replace hf := bd_some hf; obtain ⟨r204, h205, hf⟩ := hf
        refine V_call (pc := 825) (us1 := [_, _, _, _, _, _, _, _, _, _, _, _, _, _, _, _, _, _, _, _, _, _, _, _, _, _, _, _, _, _]) [28] 28 (kX11_fits (o := 28) rfl h205) rfl rfl rfl rfl rfl rfl (Nat.le_of_ble_eq_true rfl) rfl rfl rfl wm_RL_118 md_X11_fits (Nat.le_of_ble_eq_true rfl) (Nat.le_of_ble_eq_true rfl) rfl rfl (Nat.le_of_ble_eq_true rfl) dL_law_825 ?_
        refine v_icmp_eq (pc := 828) 1251 dL_law_828 (by decide) (fun c206 => ?_) (fun c206 => ?_)
        · replace hf := it_t c206 hf
          refine v_iinc (pc := 1251) 4 (l4 + (6 : Int32)) [(4, _), (0, _), (1, _), (2, _), (3, _)] dL_law_1251 rfl (congrArg (fun z => _ + z) ci_6) (Nat.le_of_ble_eq_true rfl) rfl ?_
          refine v_goto (pc := 1254) 23 dL_law_1254 (by decide) ?_
          exact V_sub [1, 2, 3, 4, 0] rfl (ih hF hb0 hf)
        · replace hf := it_f c206 hf
          refine v_iconst (pc := 831) (0 : Int32) dL_law_831 ci_0 ?_
          exact absurd (Option.some.inj hf) (by decide)
      replace hf := it_f c24 hf
      by_cases c25 : (xs l4.toNatClampNeg) &&& (63 : Int32) = (22 : Int32)
      · replace hf := it_t c25 hf
        refine v_tsIn (22 : Int32) 833 dL_law_40 c25 (by decide) (by decide) rfl (by decide) ?_
        refine v_aload_n (pc := 833) 1 dL_law_833 rfl ?_
        replace hf := bd_some hf; obtain ⟨r207, h208, hf⟩ := hf
        refine V_call (pc := 834) (us1 := [_, _, _, _, _, _, _, _, _, _, _, _, _, _, _, _, _, _, _, _, _, _, _, _, _, _, _, _, _, _]) [0] 0 (kX10_ask  h208) rfl rfl rfl rfl rfl rfl (Nat.le_of_ble_eq_true rfl) rfl rfl rfl wm_RL_119 md_X10_ask (Nat.le_of_ble_eq_true rfl) (Nat.le_of_ble_eq_true rfl) rfl rfl (Nat.le_of_ble_eq_true rfl) dL_law_834 ?_
        refine v_aload_n (pc := 837) 2 dL_law_837 rfl ?_
        replace hf := bd_some hf; obtain ⟨r209, h210, hf⟩ := hf
        refine V_call (pc := 838) (us1 := [_, _, _, _, _, _, _, _, _, _, _, _, _, _, _, _, _, _, _, _, _, _, _, _, _, _, _, _, _, _]) [28] 28 (kX11_ask (o := 28) rfl h210) rfl rfl rfl rfl rfl rfl (Nat.le_of_ble_eq_true rfl) rfl rfl rfl wm_RL_122 md_X11_ask (Nat.le_of_ble_eq_true rfl) (Nat.le_of_ble_eq_true rfl) rfl rfl (Nat.le_of_ble_eq_true rfl) dL_law_838 ?_
        refine v_icmp_eq (pc := 841) 1251 dL_law_841 (by decide) (fun c211 => ?_) (fun c211 => ?_)
        · replace hf := it_t c211 hf
          refine v_iinc (pc := 1251) 4 (l4 + (6 : Int32)) [(4, _), (0, _), (1, _), (2, _), (3, _)] dL_law_1251 rfl (congrArg (fun z => _ + z) ci_6) (Nat.le_of_ble_eq_true rfl) rfl ?_
          refine v_goto (pc := 1254) 23 dL_law_1254 (by decide) ?_
          exact V_sub [1, 2, 3, 4, 0] rfl (ih hF hb0 hf)
        · replace hf := it_f c211 hf
          refine v_iconst (pc := 844) (0 : Int32) dL_law_844 ci_0 ?_
          exact absurd (Option.some.inj hf) (by decide)
      replace hf := it_f c25 hf
      by_cases c26 : (xs l4.toNatClampNeg) &&& (63 : Int32) = (23 : Int32)
      · replace hf := it_t c26 hf
        refine v_tsIn (23 : Int32) 846 dL_law_40 c26 (by decide) (by decide) rfl (by decide) ?_
        refine v_aload_n (pc := 846) 1 dL_law_846 rfl ?_
        refine v_aload_n (pc := 847) 0 dL_law_847 rfl ?_
        refine v_iload (pc := 848) 4 dL_law_848 rfl ?_
        refine v_iconst (pc := 850) (1 : Int32) dL_law_850 ci_1 ?_
        refine v_iadd (pc := 851) dL_law_851 ?_
        replace hf := gd_some hf; obtain ⟨g212, hf⟩ := hf
        refine V_sld (pc := 852) hF g212 dL_law_852 ?_
        replace hf := bd_some hf; obtain ⟨r213, h214, hf⟩ := hf
        refine V_call (pc := 853) (us1 := [_, _, _, _, _, _, _, _, _, _, _, _, _, _, _, _, _, _, _, _, _, _, _, _, _, _, _, _, _, _]) [0, 2, 3] 0 (kX10_like  h214) rfl rfl rfl rfl rfl rfl (Nat.le_of_ble_eq_true rfl) rfl rfl rfl wm_RL_123 md_X10_like (Nat.le_of_ble_eq_true rfl) (Nat.le_of_ble_eq_true rfl) rfl rfl (Nat.le_of_ble_eq_true rfl) dL_law_853 ?_
        refine v_aload_n (pc := 856) 2 dL_law_856 rfl ?_
        refine v_aload_n (pc := 857) 0 dL_law_857 rfl ?_
        refine v_iload (pc := 858) 4 dL_law_858 rfl ?_
        refine v_iconst (pc := 860) (1 : Int32) dL_law_860 ci_1 ?_
        refine v_iadd (pc := 861) dL_law_861 ?_
        replace hf := gd_some hf; obtain ⟨g215, hf⟩ := hf
        refine V_sld (pc := 862) hF g215 dL_law_862 ?_
        replace hf := bd_some hf; obtain ⟨r216, h217, hf⟩ := hf
        refine V_call (pc := 863) (us1 := [_, _, _, _, _, _, _, _, _, _, _, _, _, _, _, _, _, _, _, _, _, _, _, _, _, _, _, _, _, _]) [28] 28 (kX11_like (o := 28) rfl h217) rfl rfl rfl rfl rfl rfl (Nat.le_of_ble_eq_true rfl) rfl rfl rfl wm_RL_126 md_X11_like (Nat.le_of_ble_eq_true rfl) (Nat.le_of_ble_eq_true rfl) rfl rfl (Nat.le_of_ble_eq_true rfl) dL_law_863 ?_
        refine v_icmp_eq (pc := 866) 1251 dL_law_866 (by decide) (fun c218 => ?_) (fun c218 => ?_)
        · replace hf := it_t c218 hf
          refine v_iinc (pc := 1251) 4 (l4 + (6 : Int32)) [(4, _), (0, _), (1, _), (2, _), (3, _)] dL_law_1251 rfl (congrArg (fun z => _ + z) ci_6) (Nat.le_of_ble_eq_true rfl) rfl ?_
          refine v_goto (pc := 1254) 23 dL_law_1254 (by decide) ?_
          exact V_sub [1, 2, 3, 4, 0] rfl (ih hF hb0 hf)
        · replace hf := it_f c218 hf
          refine v_iconst (pc := 869) (0 : Int32) dL_law_869 ci_0 ?_
          exact absurd (Option.some.inj hf) (by decide)
      replace hf := it_f c26 hf
      by_cases c27 : (xs l4.toNatClampNeg) &&& (63 : Int32) = (24 : Int32)
      · replace hf := it_t c27 hf
        refine v_tsIn (24 : Int32) 871 dL_law_40 c27 (by decide) (by decide) rfl (by decide) ?_
        refine v_aload_n (pc := 871) 1 dL_law_871 rfl ?_
        replace hf := bd_some hf; obtain ⟨r219, h220, hf⟩ := hf
        refine V_call (pc := 872) (us1 := [_, _, _, _, _, _, _, _, _, _, _, _, _, _, _, _, _, _, _, _, _, _, _, _, _, _, _, _, _, _]) [0, 2, 3] 0 (kX10_hardest  h220) rfl rfl rfl rfl rfl rfl (Nat.le_of_ble_eq_true rfl) rfl rfl rfl wm_RL_127 md_X10_hardest (Nat.le_of_ble_eq_true rfl) (Nat.le_of_ble_eq_true rfl) rfl rfl (Nat.le_of_ble_eq_true rfl) dL_law_872 ?_
        refine v_aload_n (pc := 875) 2 dL_law_875 rfl ?_
        replace hf := bd_some hf; obtain ⟨r221, h222, hf⟩ := hf
        refine V_call (pc := 876) (us1 := [_, _, _, _, _, _, _, _, _, _, _, _, _, _, _, _, _, _, _, _, _, _, _, _, _, _, _, _, _, _]) [28] 28 (kX11_hardest (o := 28) rfl h222) rfl rfl rfl rfl rfl rfl (Nat.le_of_ble_eq_true rfl) rfl rfl rfl wm_RL_130 md_X11_hardest (Nat.le_of_ble_eq_true rfl) (Nat.le_of_ble_eq_true rfl) rfl rfl (Nat.le_of_ble_eq_true rfl) dL_law_876 ?_
        refine v_icmp_eq (pc := 879) 1251 dL_law_879 (by decide) (fun c223 => ?_) (fun c223 => ?_)
        · replace hf := it_t c223 hf
          refine v_iinc (pc := 1251) 4 (l4 + (6 : Int32)) [(4, _), (0, _), (1, _), (2, _), (3, _)] dL_law_1251 rfl (congrArg (fun z => _ + z) ci_6) (Nat.le_of_ble_eq_true rfl) rfl ?_
          refine v_goto (pc := 1254) 23 dL_law_1254 (by decide) ?_
          exact V_sub [1, 2, 3, 4, 0] rfl (ih hF hb0 hf)
        · replace hf := it_f c223 hf
          refine v_iconst (pc := 882) (0 : Int32) dL_law_882 ci_0 ?_
          exact absurd (Option.some.inj hf) (by decide)
      replace hf := it_f c27 hf
      by_cases c28 : (xs l4.toNatClampNeg) &&& (63 : Int32) = (25 : Int32)
      · replace hf := it_t c28 hf
        refine v_tsIn (25 : Int32) 884 dL_law_40 c28 (by decide) (by decide) rfl (by decide) ?_
        refine v_aload_n (pc := 884) 1 dL_law_884 rfl ?_
        refine v_aload_n (pc := 885) 0 dL_law_885 rfl ?_
        refine v_iload (pc := 886) 4 dL_law_886 rfl ?_
        refine v_iconst (pc := 888) (1 : Int32) dL_law_888 ci_1 ?_
        refine v_iadd (pc := 889) dL_law_889 ?_
        replace hf := gd_some hf; obtain ⟨g224, hf⟩ := hf
        refine V_sld (pc := 890) hF g224 dL_law_890 ?_
        refine v_aload_n (pc := 891) 0 dL_law_891 rfl ?_
        refine v_iload (pc := 892) 4 dL_law_892 rfl ?_
        refine v_iconst (pc := 894) (2 : Int32) dL_law_894 ci_2 ?_
        refine v_iadd (pc := 895) dL_law_895 ?_
        replace hf := gd_some hf; obtain ⟨g225, hf⟩ := hf
        refine V_sld (pc := 896) hF g225 dL_law_896 ?_
        refine v_aload_n (pc := 897) 3 dL_law_897 rfl ?_
        replace hf := bd_some hf; obtain ⟨r226, h227, hf⟩ := hf
        refine V_callSW (pc := 898) (us1 := [_, _, _, _, _, _, _, _, _, _, _, _, _, _, _, _, _, _, _, _, _, _, _, _, _, _, _, _, _, _]) [0, 2, 3, 29] (kL_mean h227) hF.2.2.2.2.2.2.2 rfl rfl rfl rfl wm_RLs_131 md_L_mean (Nat.le_of_ble_eq_true rfl) (Nat.le_of_ble_eq_true rfl) rfl rfl (Nat.le_of_ble_eq_true rfl) dL_law_898 (Nat.le_trans (by omega) hbd.1) (Nat.le_trans (by omega) hbd.2) ?_
        replace hF := FnlL_gx hF; replace hb0 := bdg_gx hbd
        refine v_istore (pc := 901) [(5, _), (0, _), (1, _), (2, _), (3, _), (4, _)] dL_law_901 (Nat.le_of_ble_eq_true rfl) rfl ?_
        refine v_aload_n (pc := 903) 3 dL_law_903 rfl ?_
        refine v_aload_n (pc := 904) 1 dL_law_904 rfl ?_
        refine v_iload (pc := 905) 5 dL_law_905 rfl ?_
        refine v_iconst (pc := 907) (1 : Int32) dL_law_907 ci_1 ?_
        refine v_iadd (pc := 908) dL_law_908 ?_
        replace hf := gd_some hf; obtain ⟨g228, hf⟩ := hf
        refine V_sld (pc := 909) hF g228 dL_law_909 ?_
        refine v_aload_n (pc := 910) 1 dL_law_910 rfl ?_
        refine v_iload (pc := 911) 5 dL_law_911 rfl ?_
        refine v_iconst (pc := 913) (2 : Int32) dL_law_913 ci_2 ?_
        refine v_iadd (pc := 914) dL_law_914 ?_
        replace hf := gd_some hf; obtain ⟨g229, hf⟩ := hf
        refine V_sld (pc := 915) hF g229 dL_law_915 ?_
        replace hf := bd_some hf; obtain ⟨r230, h231, hf⟩ := hf
        refine V_call (pc := 916) (us1 := [_, _, _, _, _, _, _, _, _, _, _, _, _, _, _, _, _, _, _, _, _, _, _, _, _, _, _, _, _, _]) [28] 28 (kX11_mean (o := 28) rfl h231) rfl rfl rfl rfl rfl rfl (Nat.le_of_ble_eq_true rfl) rfl rfl rfl wm_RL_133 md_X11_mean (Nat.le_of_ble_eq_true rfl) (Nat.le_of_ble_eq_true rfl) rfl rfl (Nat.le_of_ble_eq_true rfl) dL_law_916 ?_
        refine v_istore (pc := 919) [(6, _), (5, _), (0, _), (1, _), (2, _), (3, _), (4, _)] dL_law_919 (Nat.le_of_ble_eq_true rfl) rfl ?_
        refine v_aload_n (pc := 921) 4 dL_law_921 rfl ?_
        replace hf := bd_some hf; obtain ⟨r232, h233, hf⟩ := hf
        refine V_call (pc := 922) (us1 := [_, _, _, _, _, _, _, _, _, _, _, _, _, _, _, _, _, _, _, _, _, _, _, _, _, _, _, _, _, _]) [28] 28 (kX11_thrown (o := 28) rfl h233) rfl rfl rfl rfl rfl rfl (Nat.le_of_ble_eq_true rfl) rfl rfl rfl wm_RL_47 md_X11_thrown (Nat.le_of_ble_eq_true rfl) (Nat.le_of_ble_eq_true rfl) rfl rfl (Nat.le_of_ble_eq_true rfl) dL_law_922 ?_
        refine v_iload (pc := 925) 1 dL_law_925 rfl ?_
        refine v_icmp_eq (pc := 927) 932 dL_law_927 (by decide) (fun c234 => ?_) (fun c234 => ?_)
        · replace hf := it_t c234 hf
          refine v_iload (pc := 932) 1 dL_law_932 rfl ?_
          refine v_if_ne (pc := 934) 949 dL_law_934 (by decide) (fun c235 => ?_) (fun c235 => ?_)
          · replace hf := it_f c235 hf
            refine v_goto (pc := 949) 1251 dL_law_949 (by decide) ?_
            refine v_iinc (pc := 1251) 6 (l4 + (6 : Int32)) [(4, _), (6, _), (5, _), (0, _), (1, _), (2, _), (3, _)] dL_law_1251 rfl (congrArg (fun z => _ + z) ci_6) (Nat.le_of_ble_eq_true rfl) rfl ?_
            refine v_goto (pc := 1254) 23 dL_law_1254 (by decide) ?_
            exact V_sub [3, 4, 5, 6, 0] rfl (ih hF hb0 hf)
          · replace hf := it_t c235 hf
            refine v_aload_n (pc := 937) 5 dL_law_937 rfl ?_
            refine v_iconst (pc := 938) (0 : Int32) dL_law_938 ci_0 ?_
            replace hf := gd_some hf; obtain ⟨g236, hf⟩ := hf
            refine V_lald (pc := 939) 29 0 rfl rfl (Nat.le_of_ble_eq_true rfl) (uc_out (of_decide_eq_true g236)) (by decide) dL_law_939 ?_
            refine v_iload (pc := 940) 0 dL_law_940 rfl ?_
            refine v_i2l (pc := 942) dL_law_942 ?_
            refine v_lcmp (pc := 943) dL_law_943 ?_
            refine v_if_eq (pc := 944) 949 dL_law_944 (by decide) (fun c237 => ?_) (fun c237 => ?_)
            · replace hf := it_t c237 hf
              refine v_goto (pc := 949) 1251 dL_law_949 (by decide) ?_
              refine v_iinc (pc := 1251) 6 (l4 + (6 : Int32)) [(4, _), (6, _), (5, _), (0, _), (1, _), (2, _), (3, _)] dL_law_1251 rfl (congrArg (fun z => _ + z) ci_6) (Nat.le_of_ble_eq_true rfl) rfl ?_
              refine v_goto (pc := 1254) 23 dL_law_1254 (by decide) ?_
              exact V_sub [3, 4, 5, 6, 0] rfl (ih hF hb0 hf)
            · replace hf := it_f c237 hf
              refine v_iconst (pc := 947) (0 : Int32) dL_law_947 ci_0 ?_
              exact absurd (Option.some.inj hf) (by decide)
        · replace hf := it_f c234 hf
          refine v_iconst (pc := 930) (0 : Int32) dL_law_930 ci_0 ?_
          exact absurd (Option.some.inj hf) (by decide)
      replace hf := it_f c28 hf
      by_cases c29 : (xs l4.toNatClampNeg) &&& (63 : Int32) = (26 : Int32)
      · replace hf := it_t c29 hf
        refine v_tsIn (26 : Int32) 952 dL_law_40 c29 (by decide) (by decide) rfl (by decide) ?_
        refine v_aload_n (pc := 952) 1 dL_law_952 rfl ?_
        refine v_aload_n (pc := 953) 0 dL_law_953 rfl ?_
        refine v_iload (pc := 954) 4 dL_law_954 rfl ?_
        refine v_iconst (pc := 956) (1 : Int32) dL_law_956 ci_1 ?_
        refine v_iadd (pc := 957) dL_law_957 ?_
        replace hf := gd_some hf; obtain ⟨g238, hf⟩ := hf
        refine V_sld (pc := 958) hF g238 dL_law_958 ?_
        replace hf := bd_some hf; obtain ⟨r239, h240, hf⟩ := hf
        refine V_call (pc := 959) (us1 := [_, _, _, _, _, _, _, _, _, _, _, _, _, _, _, _, _, _, _, _, _, _, _, _, _, _, _, _, _, _]) [0, 2, 8, 3] 0 (kX10_tag  h240) rfl rfl rfl rfl rfl rfl (Nat.le_of_ble_eq_true rfl) rfl rfl rfl wm_RL_134 md_X10_tag (Nat.le_of_ble_eq_true rfl) (Nat.le_of_ble_eq_true rfl) rfl rfl (Nat.le_of_ble_eq_true rfl) dL_law_959 ?_
        refine v_aload_n (pc := 962) 2 dL_law_962 rfl ?_
        refine v_aload_n (pc := 963) 0 dL_law_963 rfl ?_
        refine v_iload (pc := 964) 4 dL_law_964 rfl ?_
        refine v_iconst (pc := 966) (1 : Int32) dL_law_966 ci_1 ?_
        refine v_iadd (pc := 967) dL_law_967 ?_
        replace hf := gd_some hf; obtain ⟨g241, hf⟩ := hf
        refine V_sld (pc := 968) hF g241 dL_law_968 ?_
        replace hf := bd_some hf; obtain ⟨r242, h243, hf⟩ := hf
        refine V_call (pc := 969) (us1 := [_, _, _, _, _, _, _, _, _, _, _, _, _, _, _, _, _, _, _, _, _, _, _, _, _, _, _, _, _, _]) [28] 28 (kX11_tag (o := 28) rfl h243) rfl rfl rfl rfl rfl rfl (Nat.le_of_ble_eq_true rfl) rfl rfl rfl wm_RL_137 md_X11_tag (Nat.le_of_ble_eq_true rfl) (Nat.le_of_ble_eq_true rfl) rfl rfl (Nat.le_of_ble_eq_true rfl) dL_law_969 ?_
        refine v_icmp_eq (pc := 972) 1251 dL_law_972 (by decide) (fun c244 => ?_) (fun c244 => ?_)
        · replace hf := it_t c244 hf
          refine v_iinc (pc := 1251) 4 (l4 + (6 : Int32)) [(4, _), (0, _), (1, _), (2, _), (3, _)] dL_law_1251 rfl (congrArg (fun z => _ + z) ci_6) (Nat.le_of_ble_eq_true rfl) rfl ?_
          refine v_goto (pc := 1254) 23 dL_law_1254 (by decide) ?_
          exact V_sub [1, 2, 3, 4, 0] rfl (ih hF hb0 hf)
        · replace hf := it_f c244 hf
          refine v_iconst (pc := 975) (0 : Int32) dL_law_975 ci_0 ?_
          exact absurd (Option.some.inj hf) (by decide)
      replace hf := it_f c29 hf
      by_cases c30 : (xs l4.toNatClampNeg) &&& (63 : Int32) = (27 : Int32)
      · replace hf := it_t c30 hf
        refine v_tsIn (27 : Int32) 977 dL_law_40 c30 (by decide) (by decide) rfl (by decide) ?_
        refine v_aload_n (pc := 977) 1 dL_law_977 rfl ?_
        refine v_aload_n (pc := 978) 0 dL_law_978 rfl ?_
        refine v_iload (pc := 979) 4 dL_law_979 rfl ?_
        refine v_iconst (pc := 981) (1 : Int32) dL_law_981 ci_1 ?_
        refine v_iadd (pc := 982) dL_law_982 ?_
        replace hf := gd_some hf; obtain ⟨g245, hf⟩ := hf
        refine V_sld (pc := 983) hF g245 dL_law_983 ?_
        replace hf := bd_some hf; obtain ⟨r246, h247, hf⟩ := hf
        refine V_call (pc := 984) (us1 := [_, _, _, _, _, _, _, _, _, _, _, _, _, _, _, _, _, _, _, _, _, _, _, _, _, _, _, _, _, _]) [0, 8] 0 (kX10_byteAt  h247) rfl rfl rfl rfl rfl rfl (Nat.le_of_ble_eq_true rfl) rfl rfl rfl wm_RL_138 md_X10_byteAt (Nat.le_of_ble_eq_true rfl) (Nat.le_of_ble_eq_true rfl) rfl rfl (Nat.le_of_ble_eq_true rfl) dL_law_984 ?_
        refine v_aload_n (pc := 987) 2 dL_law_987 rfl ?_
        refine v_aload_n (pc := 988) 0 dL_law_988 rfl ?_
        refine v_iload (pc := 989) 4 dL_law_989 rfl ?_
        refine v_iconst (pc := 991) (1 : Int32) dL_law_991 ci_1 ?_
        refine v_iadd (pc := 992) dL_law_992 ?_
        replace hf := gd_some hf; obtain ⟨g248, hf⟩ := hf
        refine V_sld (pc := 993) hF g248 dL_law_993 ?_
        replace hf := bd_some hf; obtain ⟨r249, h250, hf⟩ := hf
        refine V_call (pc := 994) (us1 := [_, _, _, _, _, _, _, _, _, _, _, _, _, _, _, _, _, _, _, _, _, _, _, _, _, _, _, _, _, _]) [28] 28 (kX11_byteAt (o := 28) rfl h250) rfl rfl rfl rfl rfl rfl (Nat.le_of_ble_eq_true rfl) rfl rfl rfl wm_RL_141 md_X11_byteAt (Nat.le_of_ble_eq_true rfl) (Nat.le_of_ble_eq_true rfl) rfl rfl (Nat.le_of_ble_eq_true rfl) dL_law_994 ?_
        refine v_icmp_eq (pc := 997) 1251 dL_law_997 (by decide) (fun c251 => ?_) (fun c251 => ?_)
        · replace hf := it_t c251 hf
          refine v_iinc (pc := 1251) 4 (l4 + (6 : Int32)) [(4, _), (0, _), (1, _), (2, _), (3, _)] dL_law_1251 rfl (congrArg (fun z => _ + z) ci_6) (Nat.le_of_ble_eq_true rfl) rfl ?_
          refine v_goto (pc := 1254) 23 dL_law_1254 (by decide) ?_
          exact V_sub [1, 2, 3, 4, 0] rfl (ih hF hb0 hf)
        · replace hf := it_f c251 hf
          refine v_iconst (pc := 1000) (0 : Int32) dL_law_1000 ci_0 ?_
          exact absurd (Option.some.inj hf) (by decide)
      replace hf := it_f c30 hf
      by_cases c31 : (xs l4.toNatClampNeg) &&& (63 : Int32) = (28 : Int32)
      · replace hf := it_t c31 hf
        refine v_tsIn (28 : Int32) 1002 dL_law_40 c31 (by decide) (by decide) rfl (by decide) ?_
        refine v_aload_n (pc := 1002) 1 dL_law_1002 rfl ?_
        refine v_aload_n (pc := 1003) 0 dL_law_1003 rfl ?_
        refine v_iload (pc := 1004) 4 dL_law_1004 rfl ?_
        refine v_iconst (pc := 1006) (1 : Int32) dL_law_1006 ci_1 ?_
        refine v_iadd (pc := 1007) dL_law_1007 ?_
        replace hf := gd_some hf; obtain ⟨g252, hf⟩ := hf
        refine V_sld (pc := 1008) hF g252 dL_law_1008 ?_
        refine v_aload_n (pc := 1009) 0 dL_law_1009 rfl ?_
        refine v_iload (pc := 1010) 4 dL_law_1010 rfl ?_
        refine v_iconst (pc := 1012) (2 : Int32) dL_law_1012 ci_2 ?_
        refine v_iadd (pc := 1013) dL_law_1013 ?_
        replace hf := gd_some hf; obtain ⟨g253, hf⟩ := hf
        refine V_sld (pc := 1014) hF g253 dL_law_1014 ?_
        replace hf := bd_some hf; obtain ⟨r254, h255, hf⟩ := hf
        refine V_call (pc := 1015) (us1 := [_, _, _, _, _, _, _, _, _, _, _, _, _, _, _, _, _, _, _, _, _, _, _, _, _, _, _, _, _, _]) [0, 3, 5, 12, 13, 14, 15, 16, 17, 18, 19, 2] 0 (kX10_drawn  h255) rfl rfl rfl rfl rfl rfl (Nat.le_of_ble_eq_true rfl) rfl rfl rfl wm_RL_142 md_X10_drawn (Nat.le_of_ble_eq_true rfl) (Nat.le_of_ble_eq_true rfl) rfl rfl (Nat.le_of_ble_eq_true rfl) dL_law_1015 ?_
        refine v_aload_n (pc := 1018) 2 dL_law_1018 rfl ?_
        refine v_aload_n (pc := 1019) 0 dL_law_1019 rfl ?_
        refine v_iload (pc := 1020) 4 dL_law_1020 rfl ?_
        refine v_iconst (pc := 1022) (1 : Int32) dL_law_1022 ci_1 ?_
        refine v_iadd (pc := 1023) dL_law_1023 ?_
        replace hf := gd_some hf; obtain ⟨g256, hf⟩ := hf
        refine V_sld (pc := 1024) hF g256 dL_law_1024 ?_
        refine v_aload_n (pc := 1025) 0 dL_law_1025 rfl ?_
        refine v_iload (pc := 1026) 4 dL_law_1026 rfl ?_
        refine v_iconst (pc := 1028) (2 : Int32) dL_law_1028 ci_2 ?_
        refine v_iadd (pc := 1029) dL_law_1029 ?_
        replace hf := gd_some hf; obtain ⟨g257, hf⟩ := hf
        refine V_sld (pc := 1030) hF g257 dL_law_1030 ?_
        replace hf := bd_some hf; obtain ⟨r258, h259, hf⟩ := hf
        refine V_call (pc := 1031) (us1 := [_, _, _, _, _, _, _, _, _, _, _, _, _, _, _, _, _, _, _, _, _, _, _, _, _, _, _, _, _, _]) [28] 28 (kX11_drawn (o := 28) rfl h259) rfl rfl rfl rfl rfl rfl (Nat.le_of_ble_eq_true rfl) rfl rfl rfl wm_RL_145 md_X11_drawn (Nat.le_of_ble_eq_true rfl) (Nat.le_of_ble_eq_true rfl) rfl rfl (Nat.le_of_ble_eq_true rfl) dL_law_1031 ?_
        refine v_icmp_eq (pc := 1034) 1251 dL_law_1034 (by decide) (fun c260 => ?_) (fun c260 => ?_)
        · replace hf := it_t c260 hf
          refine v_iinc (pc := 1251) 4 (l4 + (6 : Int32)) [(4, _), (0, _), (1, _), (2, _), (3, _)] dL_law_1251 rfl (congrArg (fun z => _ + z) ci_6) (Nat.le_of_ble_eq_true rfl) rfl ?_
          refine v_goto (pc := 1254) 23 dL_law_1254 (by decide) ?_
          exact V_sub [1, 2, 3, 4, 0] rfl (ih hF hb0 hf)
        · replace hf := it_f c260 hf
          refine v_iconst (pc := 1037) (0 : Int32) dL_law_1037 ci_0 ?_
          exact absurd (Option.some.inj hf) (by decide)
      replace hf := it_f c31 hf
      by_cases c32 : (xs l4.toNatClampNeg) &&& (63 : Int32) = (29 : Int32)
      · replace hf := it_t c32 hf
        refine v_tsIn (29 : Int32) 1039 dL_law_40 c32 (by decide) (by decide) rfl (by decide) ?_
        refine v_aload_n (pc := 1039) 1 dL_law_1039 rfl ?_
        refine v_aload_n (pc := 1040) 0 dL_law_1040 rfl ?_
        refine v_iload (pc := 1041) 4 dL_law_1041 rfl ?_
        refine v_iconst (pc := 1043) (1 : Int32) dL_law_1043 ci_1 ?_
        refine v_iadd (pc := 1044) dL_law_1044 ?_
        replace hf := gd_some hf; obtain ⟨g261, hf⟩ := hf
        refine V_sld (pc := 1045) hF g261 dL_law_1045 ?_
        refine v_aload_n (pc := 1046) 0 dL_law_1046 rfl ?_
        refine v_iload (pc := 1047) 4 dL_law_1047 rfl ?_
        refine v_iconst (pc := 1049) (2 : Int32) dL_law_1049 ci_2 ?_
        refine v_iadd (pc := 1050) dL_law_1050 ?_
        replace hf := gd_some hf; obtain ⟨g262, hf⟩ := hf
        refine V_sld (pc := 1051) hF g262 dL_law_1051 ?_
        refine v_aload_n (pc := 1052) 0 dL_law_1052 rfl ?_
        refine v_iload (pc := 1053) 4 dL_law_1053 rfl ?_
        refine v_iconst (pc := 1055) (3 : Int32) dL_law_1055 ci_3 ?_
        refine v_iadd (pc := 1056) dL_law_1056 ?_
        replace hf := gd_some hf; obtain ⟨g263, hf⟩ := hf
        refine V_sld (pc := 1057) hF g263 dL_law_1057 ?_
        replace hf := bd_some hf; obtain ⟨r264, h265, hf⟩ := hf
        refine V_call (pc := 1058) (us1 := [_, _, _, _, _, _, _, _, _, _, _, _, _, _, _, _, _, _, _, _, _, _, _, _, _, _, _, _, _, _]) [0, 2, 11, 3] 0 (kX10_odds  h265) rfl rfl rfl rfl rfl rfl (Nat.le_of_ble_eq_true rfl) rfl rfl rfl wm_RL_146 md_X10_odds (Nat.le_of_ble_eq_true rfl) (Nat.le_of_ble_eq_true rfl) rfl rfl (Nat.le_of_ble_eq_true rfl) dL_law_1058 ?_
        refine v_aload_n (pc := 1061) 2 dL_law_1061 rfl ?_
        refine v_aload_n (pc := 1062) 0 dL_law_1062 rfl ?_
        refine v_iload (pc := 1063) 4 dL_law_1063 rfl ?_
        refine v_iconst (pc := 1065) (1 : Int32) dL_law_1065 ci_1 ?_
        refine v_iadd (pc := 1066) dL_law_1066 ?_
        replace hf := gd_some hf; obtain ⟨g266, hf⟩ := hf
        refine V_sld (pc := 1067) hF g266 dL_law_1067 ?_
        refine v_aload_n (pc := 1068) 0 dL_law_1068 rfl ?_
        refine v_iload (pc := 1069) 4 dL_law_1069 rfl ?_
        refine v_iconst (pc := 1071) (2 : Int32) dL_law_1071 ci_2 ?_
        refine v_iadd (pc := 1072) dL_law_1072 ?_
        replace hf := gd_some hf; obtain ⟨g267, hf⟩ := hf
        refine V_sld (pc := 1073) hF g267 dL_law_1073 ?_
        refine v_aload_n (pc := 1074) 0 dL_law_1074 rfl ?_
        refine v_iload (pc := 1075) 4 dL_law_1075 rfl ?_
        refine v_iconst (pc := 1077) (3 : Int32) dL_law_1077 ci_3 ?_
        refine v_iadd (pc := 1078) dL_law_1078 ?_
        replace hf := gd_some hf; obtain ⟨g268, hf⟩ := hf
        refine V_sld (pc := 1079) hF g268 dL_law_1079 ?_
        replace hf := bd_some hf; obtain ⟨r269, h270, hf⟩ := hf
        refine V_call (pc := 1080) (us1 := [_, _, _, _, _, _, _, _, _, _, _, _, _, _, _, _, _, _, _, _, _, _, _, _, _, _, _, _, _, _]) [28] 28 (kX11_odds (o := 28) rfl h270) rfl rfl rfl rfl rfl rfl (Nat.le_of_ble_eq_true rfl) rfl rfl rfl wm_RL_150 md_X11_odds (Nat.le_of_ble_eq_true rfl) (Nat.le_of_ble_eq_true rfl) rfl rfl (Nat.le_of_ble_eq_true rfl) dL_law_1080 ?_
        refine v_icmp_eq (pc := 1083) 1251 dL_law_1083 (by decide) (fun c271 => ?_) (fun c271 => ?_)
        · replace hf := it_t c271 hf
          refine v_iinc (pc := 1251) 4 (l4 + (6 : Int32)) [(4, _), (0, _), (1, _), (2, _), (3, _)] dL_law_1251 rfl (congrArg (fun z => _ + z) ci_6) (Nat.le_of_ble_eq_true rfl) rfl ?_
          refine v_goto (pc := 1254) 23 dL_law_1254 (by decide) ?_
          exact V_sub [1, 2, 3, 4, 0] rfl (ih hF hb0 hf)
        · replace hf := it_f c271 hf
          refine v_iconst (pc := 1086) (0 : Int32) dL_law_1086 ci_0 ?_
          exact absurd (Option.some.inj hf) (by decide)
      replace hf := it_f c32 hf
      by_cases c33 : (xs l4.toNatClampNeg) &&& (63 : Int32) = (30 : Int32)
      · replace hf := it_t c33 hf
        refine v_tsIn (30 : Int32) 1088 dL_law_40 c33 (by decide) (by decide) rfl (by decide) ?_
        refine v_aload_n (pc := 1088) 1 dL_law_1088 rfl ?_
        refine v_aload_n (pc := 1089) 0 dL_law_1089 rfl ?_
        refine v_iload (pc := 1090) 4 dL_law_1090 rfl ?_
        refine v_iconst (pc := 1092) (1 : Int32) dL_law_1092 ci_1 ?_
        refine v_iadd (pc := 1093) dL_law_1093 ?_
        replace hf := gd_some hf; obtain ⟨g272, hf⟩ := hf
        refine V_sld (pc := 1094) hF g272 dL_law_1094 ?_
        replace hf := bd_some hf; obtain ⟨r273, h274, hf⟩ := hf
        refine V_call (pc := 1095) (us1 := [_, _, _, _, _, _, _, _, _, _, _, _, _, _, _, _, _, _, _, _, _, _, _, _, _, _, _, _, _, _]) [0, 7, 1, 2, 11, 3, 5, 12, 13, 14, 15, 16, 17, 18, 19] 0 (kX10_book  h274) rfl rfl rfl rfl rfl rfl (Nat.le_of_ble_eq_true rfl) rfl rfl rfl wm_RL_151 md_X10_book (Nat.le_of_ble_eq_true rfl) (Nat.le_of_ble_eq_true rfl) rfl rfl (Nat.le_of_ble_eq_true rfl) dL_law_1095 ?_
        refine v_aload_n (pc := 1098) 2 dL_law_1098 rfl ?_
        refine v_aload_n (pc := 1099) 0 dL_law_1099 rfl ?_
        refine v_iload (pc := 1100) 4 dL_law_1100 rfl ?_
        refine v_iconst (pc := 1102) (1 : Int32) dL_law_1102 ci_1 ?_
        refine v_iadd (pc := 1103) dL_law_1103 ?_
        replace hf := gd_some hf; obtain ⟨g275, hf⟩ := hf
        refine V_sld (pc := 1104) hF g275 dL_law_1104 ?_
        replace hf := bd_some hf; obtain ⟨r276, h277, hf⟩ := hf
        refine V_call (pc := 1105) (us1 := [_, _, _, _, _, _, _, _, _, _, _, _, _, _, _, _, _, _, _, _, _, _, _, _, _, _, _, _, _, _]) [28] 28 (kX11_book (o := 28) rfl h277) rfl rfl rfl rfl rfl rfl (Nat.le_of_ble_eq_true rfl) rfl rfl rfl wm_RL_154 md_X11_book (Nat.le_of_ble_eq_true rfl) (Nat.le_of_ble_eq_true rfl) rfl rfl (Nat.le_of_ble_eq_true rfl) dL_law_1105 ?_
        refine v_icmp_eq (pc := 1108) 1251 dL_law_1108 (by decide) (fun c278 => ?_) (fun c278 => ?_)
        · replace hf := it_t c278 hf
          refine v_iinc (pc := 1251) 4 (l4 + (6 : Int32)) [(4, _), (0, _), (1, _), (2, _), (3, _)] dL_law_1251 rfl (congrArg (fun z => _ + z) ci_6) (Nat.le_of_ble_eq_true rfl) rfl ?_
          refine v_goto (pc := 1254) 23 dL_law_1254 (by decide) ?_
          exact V_sub [1, 2, 3, 4, 0] rfl (ih hF hb0 hf)
        · replace hf := it_f c278 hf
          refine v_iconst (pc := 1111) (0 : Int32) dL_law_1111 ci_0 ?_
          exact absurd (Option.some.inj hf) (by decide)
      replace hf := it_f c33 hf
      by_cases c34 : (xs l4.toNatClampNeg) &&& (63 : Int32) = (31 : Int32)
      · replace hf := it_t c34 hf
        refine v_tsIn (31 : Int32) 1113 dL_law_40 c34 (by decide) (by decide) rfl (by decide) ?_
        refine v_aload_n (pc := 1113) 1 dL_law_1113 rfl ?_
        refine v_aload_n (pc := 1114) 0 dL_law_1114 rfl ?_
        refine v_iload (pc := 1115) 4 dL_law_1115 rfl ?_
        refine v_iconst (pc := 1117) (1 : Int32) dL_law_1117 ci_1 ?_
        refine v_iadd (pc := 1118) dL_law_1118 ?_
        replace hf := gd_some hf; obtain ⟨g279, hf⟩ := hf
        refine V_sld (pc := 1119) hF g279 dL_law_1119 ?_
        replace hf := bd_some hf; obtain ⟨r280, h281, hf⟩ := hf
        refine V_call (pc := 1120) (us1 := [_, _, _, _, _, _, _, _, _, _, _, _, _, _, _, _, _, _, _, _, _, _, _, _, _, _, _, _, _, _]) [0, 7] 0 (kX10_told  h281) rfl rfl rfl rfl rfl rfl (Nat.le_of_ble_eq_true rfl) rfl rfl rfl wm_RL_155 md_X10_told (Nat.le_of_ble_eq_true rfl) (Nat.le_of_ble_eq_true rfl) rfl rfl (Nat.le_of_ble_eq_true rfl) dL_law_1120 ?_
        refine v_aload_n (pc := 1123) 2 dL_law_1123 rfl ?_
        refine v_aload_n (pc := 1124) 0 dL_law_1124 rfl ?_
        refine v_iload (pc := 1125) 4 dL_law_1125 rfl ?_
        refine v_iconst (pc := 1127) (1 : Int32) dL_law_1127 ci_1 ?_
        refine v_iadd (pc := 1128) dL_law_1128 ?_
        replace hf := gd_some hf; obtain ⟨g282, hf⟩ := hf
        refine V_sld (pc := 1129) hF g282 dL_law_1129 ?_
        replace hf := bd_some hf; obtain ⟨r283, h284, hf⟩ := hf
        refine V_call (pc := 1130) (us1 := [_, _, _, _, _, _, _, _, _, _, _, _, _, _, _, _, _, _, _, _, _, _, _, _, _, _, _, _, _, _]) [28] 28 (kX11_told (o := 28) rfl h284) rfl rfl rfl rfl rfl rfl (Nat.le_of_ble_eq_true rfl) rfl rfl rfl wm_RL_158 md_X11_told (Nat.le_of_ble_eq_true rfl) (Nat.le_of_ble_eq_true rfl) rfl rfl (Nat.le_of_ble_eq_true rfl) dL_law_1130 ?_
        refine v_icmp_eq (pc := 1133) 1251 dL_law_1133 (by decide) (fun c285 => ?_) (fun c285 => ?_)
        · replace hf := it_t c285 hf
          refine v_iinc (pc := 1251) 4 (l4 + (6 : Int32)) [(4, _), (0, _), (1, _), (2, _), (3, _)] dL_law_1251 rfl (congrArg (fun z => _ + z) ci_6) (Nat.le_of_ble_eq_true rfl) rfl ?_
          refine v_goto (pc := 1254) 23 dL_law_1254 (by decide) ?_
          exact V_sub [1, 2, 3, 4, 0] rfl (ih hF hb0 hf)
        · replace hf := it_f c285 hf
          refine v_iconst (pc := 1136) (0 : Int32) dL_law_1136 ci_0 ?_
          exact absurd (Option.some.inj hf) (by decide)
      replace hf := it_f c34 hf
      by_cases c35 : (xs l4.toNatClampNeg) &&& (63 : Int32) = (32 : Int32)
      · replace hf := it_t c35 hf
        refine v_tsIn (32 : Int32) 1138 dL_law_40 c35 (by decide) (by decide) rfl (by decide) ?_
        refine v_aload_n (pc := 1138) 1 dL_law_1138 rfl ?_
        replace hf := bd_some hf; obtain ⟨r286, h287, hf⟩ := hf
        refine V_call (pc := 1139) (us1 := [_, _, _, _, _, _, _, _, _, _, _, _, _, _, _, _, _, _, _, _, _, _, _, _, _, _, _, _, _, _]) [0, 10, 1, 2, 4] 0 (kX10_sentence  h287) rfl rfl rfl rfl rfl rfl (Nat.le_of_ble_eq_true rfl) rfl rfl rfl wm_RL_159 md_X10_sentence (Nat.le_of_ble_eq_true rfl) (Nat.le_of_ble_eq_true rfl) rfl rfl (Nat.le_of_ble_eq_true rfl) dL_law_1139 ?_
        refine v_aload_n (pc := 1142) 2 dL_law_1142 rfl ?_
        replace hf := bd_some hf; obtain ⟨r288, h289, hf⟩ := hf
        refine V_call (pc := 1143) (us1 := [_, _, _, _, _, _, _, _, _, _, _, _, _, _, _, _, _, _, _, _, _, _, _, _, _, _, _, _, _, _]) [28] 28 (kX11_sentence (o := 28) rfl h289) rfl rfl rfl rfl rfl rfl (Nat.le_of_ble_eq_true rfl) rfl rfl rfl wm_RL_162 md_X11_sentence (Nat.le_of_ble_eq_true rfl) (Nat.le_of_ble_eq_true rfl) rfl rfl (Nat.le_of_ble_eq_true rfl) dL_law_1143 ?_
        refine v_icmp_eq (pc := 1146) 1251 dL_law_1146 (by decide) (fun c290 => ?_) (fun c290 => ?_)
        · replace hf := it_t c290 hf
          refine v_iinc (pc := 1251) 4 (l4 + (6 : Int32)) [(4, _), (0, _), (1, _), (2, _), (3, _)] dL_law_1251 rfl (congrArg (fun z => _ + z) ci_6) (Nat.le_of_ble_eq_true rfl) rfl ?_
          refine v_goto (pc := 1254) 23 dL_law_1254 (by decide) ?_
          exact V_sub [1, 2, 3, 4, 0] rfl (ih hF hb0 hf)
        · replace hf := it_f c290 hf
          refine v_iconst (pc := 1149) (0 : Int32) dL_law_1149 ci_0 ?_
          exact absurd (Option.some.inj hf) (by decide)
      replace hf := it_f c35 hf
      by_cases c36 : (xs l4.toNatClampNeg) &&& (63 : Int32) = (33 : Int32)
      · replace hf := it_t c36 hf
        refine v_tsIn (33 : Int32) 1151 dL_law_40 c36 (by decide) (by decide) rfl (by decide) ?_
        refine v_aload_n (pc := 1151) 1 dL_law_1151 rfl ?_
        refine v_aload_n (pc := 1152) 0 dL_law_1152 rfl ?_
        refine v_iload (pc := 1153) 4 dL_law_1153 rfl ?_
        refine v_iconst (pc := 1155) (1 : Int32) dL_law_1155 ci_1 ?_
        refine v_iadd (pc := 1156) dL_law_1156 ?_
        replace hf := gd_some hf; obtain ⟨g291, hf⟩ := hf
        refine V_sld (pc := 1157) hF g291 dL_law_1157 ?_
        replace hf := bd_some hf; obtain ⟨r292, h293, hf⟩ := hf
        refine V_call (pc := 1158) (us1 := [_, _, _, _, _, _, _, _, _, _, _, _, _, _, _, _, _, _, _, _, _, _, _, _, _, _, _, _, _, _]) [0, 4, 2, 3] 0 (kX10_said  h293) rfl rfl rfl rfl rfl rfl (Nat.le_of_ble_eq_true rfl) rfl rfl rfl wm_RL_163 md_X10_said (Nat.le_of_ble_eq_true rfl) (Nat.le_of_ble_eq_true rfl) rfl rfl (Nat.le_of_ble_eq_true rfl) dL_law_1158 ?_
        refine v_aload_n (pc := 1161) 2 dL_law_1161 rfl ?_
        refine v_aload_n (pc := 1162) 0 dL_law_1162 rfl ?_
        refine v_iload (pc := 1163) 4 dL_law_1163 rfl ?_
        refine v_iconst (pc := 1165) (1 : Int32) dL_law_1165 ci_1 ?_
        refine v_iadd (pc := 1166) dL_law_1166 ?_
        replace hf := gd_some hf; obtain ⟨g294, hf⟩ := hf
        refine V_sld (pc := 1167) hF g294 dL_law_1167 ?_
        replace hf := bd_some hf; obtain ⟨r295, h296, hf⟩ := hf
        refine V_call (pc := 1168) (us1 := [_, _, _, _, _, _, _, _, _, _, _, _, _, _, _, _, _, _, _, _, _, _, _, _, _, _, _, _, _, _]) [28] 28 (kX11_said (o := 28) rfl h296) rfl rfl rfl rfl rfl rfl (Nat.le_of_ble_eq_true rfl) rfl rfl rfl wm_RL_166 md_X11_said (Nat.le_of_ble_eq_true rfl) (Nat.le_of_ble_eq_true rfl) rfl rfl (Nat.le_of_ble_eq_true rfl) dL_law_1168 ?_
        refine v_icmp_eq (pc := 1171) 1251 dL_law_1171 (by decide) (fun c297 => ?_) (fun c297 => ?_)
        · replace hf := it_t c297 hf
          refine v_iinc (pc := 1251) 4 (l4 + (6 : Int32)) [(4, _), (0, _), (1, _), (2, _), (3, _)] dL_law_1251 rfl (congrArg (fun z => _ + z) ci_6) (Nat.le_of_ble_eq_true rfl) rfl ?_
          refine v_goto (pc := 1254) 23 dL_law_1254 (by decide) ?_
          exact V_sub [1, 2, 3, 4, 0] rfl (ih hF hb0 hf)
        · replace hf := it_f c297 hf
          refine v_iconst (pc := 1174) (0 : Int32) dL_law_1174 ci_0 ?_
          exact absurd (Option.some.inj hf) (by decide)
      replace hf := it_f c36 hf
      by_cases c37 : (xs l4.toNatClampNeg) &&& (63 : Int32) = (34 : Int32)
      · replace hf := it_t c37 hf
        refine v_tsIn (34 : Int32) 1176 dL_law_40 c37 (by decide) (by decide) rfl (by decide) ?_
        refine v_aload_n (pc := 1176) 1 dL_law_1176 rfl ?_
        refine v_aload_n (pc := 1177) 0 dL_law_1177 rfl ?_
        refine v_iload (pc := 1178) 4 dL_law_1178 rfl ?_
        refine v_iconst (pc := 1180) (1 : Int32) dL_law_1180 ci_1 ?_
        refine v_iadd (pc := 1181) dL_law_1181 ?_
        replace hf := gd_some hf; obtain ⟨g298, hf⟩ := hf
        refine V_sld (pc := 1182) hF g298 dL_law_1182 ?_
        replace hf := bd_some hf; obtain ⟨r299, h300, hf⟩ := hf
        refine V_call (pc := 1183) (us1 := [_, _, _, _, _, _, _, _, _, _, _, _, _, _, _, _, _, _, _, _, _, _, _, _, _, _, _, _, _, _]) [0, 20, 21, 22, 23, 24, 25, 26, 27, 2, 3, 4] 0 (kX10_image  h300) rfl rfl rfl rfl rfl rfl (Nat.le_of_ble_eq_true rfl) rfl rfl rfl wm_RL_167 md_X10_image (Nat.le_of_ble_eq_true rfl) (Nat.le_of_ble_eq_true rfl) rfl rfl (Nat.le_of_ble_eq_true rfl) dL_law_1183 ?_
        refine v_aload_n (pc := 1186) 2 dL_law_1186 rfl ?_
        refine v_aload_n (pc := 1187) 0 dL_law_1187 rfl ?_
        refine v_iload (pc := 1188) 4 dL_law_1188 rfl ?_
        refine v_iconst (pc := 1190) (1 : Int32) dL_law_1190 ci_1 ?_
        refine v_iadd (pc := 1191) dL_law_1191 ?_
        replace hf := gd_some hf; obtain ⟨g301, hf⟩ := hf
        refine V_sld (pc := 1192) hF g301 dL_law_1192 ?_
        replace hf := bd_some hf; obtain ⟨r302, h303, hf⟩ := hf
        refine V_call (pc := 1193) (us1 := [_, _, _, _, _, _, _, _, _, _, _, _, _, _, _, _, _, _, _, _, _, _, _, _, _, _, _, _, _, _]) [28] 28 (kX11_image (o := 28) rfl h303) rfl rfl rfl rfl rfl rfl (Nat.le_of_ble_eq_true rfl) rfl rfl rfl wm_RL_170 md_X11_image (Nat.le_of_ble_eq_true rfl) (Nat.le_of_ble_eq_true rfl) rfl rfl (Nat.le_of_ble_eq_true rfl) dL_law_1193 ?_
        refine v_icmp_eq (pc := 1196) 1251 dL_law_1196 (by decide) (fun c304 => ?_) (fun c304 => ?_)
        · replace hf := it_t c304 hf
          refine v_iinc (pc := 1251) 4 (l4 + (6 : Int32)) [(4, _), (0, _), (1, _), (2, _), (3, _)] dL_law_1251 rfl (congrArg (fun z => _ + z) ci_6) (Nat.le_of_ble_eq_true rfl) rfl ?_
          refine v_goto (pc := 1254) 23 dL_law_1254 (by decide) ?_
          exact V_sub [1, 2, 3, 4, 0] rfl (ih hF hb0 hf)
        · replace hf := it_f c304 hf
          refine v_iconst (pc := 1199) (0 : Int32) dL_law_1199 ci_0 ?_
          exact absurd (Option.some.inj hf) (by decide)
      replace hf := it_f c37 hf
      by_cases c38 : (xs l4.toNatClampNeg) &&& (63 : Int32) = (35 : Int32)
      · replace hf := it_t c38 hf
        refine v_tsIn (35 : Int32) 1201 dL_law_40 c38 (by decide) (by decide) rfl (by decide) ?_
        refine v_aload_n (pc := 1201) 1 dL_law_1201 rfl ?_
        refine v_aload_n (pc := 1202) 0 dL_law_1202 rfl ?_
        refine v_iload (pc := 1203) 4 dL_law_1203 rfl ?_
        refine v_iconst (pc := 1205) (1 : Int32) dL_law_1205 ci_1 ?_
        refine v_iadd (pc := 1206) dL_law_1206 ?_
        replace hf := gd_some hf; obtain ⟨g305, hf⟩ := hf
        refine V_sld (pc := 1207) hF g305 dL_law_1207 ?_
        replace hf := bd_some hf; obtain ⟨r306, h307, hf⟩ := hf
        refine V_call (pc := 1208) (us1 := [_, _, _, _, _, _, _, _, _, _, _, _, _, _, _, _, _, _, _, _, _, _, _, _, _, _, _, _, _, _]) [0, 20, 21, 22, 23, 24, 25, 26, 27, 2, 3, 4, 5] 0 (kX10_restore  h307) rfl rfl rfl rfl rfl rfl (Nat.le_of_ble_eq_true rfl) rfl rfl rfl wm_RL_171 md_X10_restore (Nat.le_of_ble_eq_true rfl) (Nat.le_of_ble_eq_true rfl) rfl rfl (Nat.le_of_ble_eq_true rfl) dL_law_1208 ?_
        refine v_aload_n (pc := 1211) 2 dL_law_1211 rfl ?_
        refine v_aload_n (pc := 1212) 0 dL_law_1212 rfl ?_
        refine v_iload (pc := 1213) 4 dL_law_1213 rfl ?_
        refine v_iconst (pc := 1215) (1 : Int32) dL_law_1215 ci_1 ?_
        refine v_iadd (pc := 1216) dL_law_1216 ?_
        replace hf := gd_some hf; obtain ⟨g308, hf⟩ := hf
        refine V_sld (pc := 1217) hF g308 dL_law_1217 ?_
        replace hf := bd_some hf; obtain ⟨r309, h310, hf⟩ := hf
        refine V_call (pc := 1218) (us1 := [_, _, _, _, _, _, _, _, _, _, _, _, _, _, _, _, _, _, _, _, _, _, _, _, _, _, _, _, _, _]) [28] 28 (kX11_restore (o := 28) rfl h310) rfl rfl rfl rfl rfl rfl (Nat.le_of_ble_eq_true rfl) rfl rfl rfl wm_RL_174 md_X11_restore (Nat.le_of_ble_eq_true rfl) (Nat.le_of_ble_eq_true rfl) rfl rfl (Nat.le_of_ble_eq_true rfl) dL_law_1218 ?_
        refine v_icmp_eq (pc := 1221) 1251 dL_law_1221 (by decide) (fun c311 => ?_) (fun c311 => ?_)
        · replace hf := it_t c311 hf
          refine v_iinc (pc := 1251) 4 (l4 + (6 : Int32)) [(4, _), (0, _), (1, _), (2, _), (3, _)] dL_law_1251 rfl (congrArg (fun z => _ + z) ci_6) (Nat.le_of_ble_eq_true rfl) rfl ?_
          refine v_goto (pc := 1254) 23 dL_law_1254 (by decide) ?_
          exact V_sub [1, 2, 3, 4, 0] rfl (ih hF hb0 hf)
        · replace hf := it_f c311 hf
          refine v_iconst (pc := 1224) (0 : Int32) dL_law_1224 ci_0 ?_
          exact absurd (Option.some.inj hf) (by decide)
      replace hf := it_f c38 hf
      by_cases c39 : (xs l4.toNatClampNeg) &&& (63 : Int32) = (36 : Int32)
      · replace hf := it_t c39 hf
        refine v_tsIn (36 : Int32) 1226 dL_law_40 c39 (by decide) (by decide) rfl (by decide) ?_
        refine v_aload_n (pc := 1226) 1 dL_law_1226 rfl ?_
        refine v_aload_n (pc := 1227) 0 dL_law_1227 rfl ?_
        refine v_iload (pc := 1228) 4 dL_law_1228 rfl ?_
        refine v_iconst (pc := 1230) (1 : Int32) dL_law_1230 ci_1 ?_
        refine v_iadd (pc := 1231) dL_law_1231 ?_
        replace hf := gd_some hf; obtain ⟨g312, hf⟩ := hf
        refine V_sld (pc := 1232) hF g312 dL_law_1232 ?_
        replace hf := bd_some hf; obtain ⟨r313, h314, hf⟩ := hf
        refine V_call (pc := 1233) (us1 := [_, _, _, _, _, _, _, _, _, _, _, _, _, _, _, _, _, _, _, _, _, _, _, _, _, _, _, _, _, _]) [0, 1, 2] 0 (kX10_count  h314) rfl rfl rfl rfl rfl rfl (Nat.le_of_ble_eq_true rfl) rfl rfl rfl wm_RL_175 md_X10_count (Nat.le_of_ble_eq_true rfl) (Nat.le_of_ble_eq_true rfl) rfl rfl (Nat.le_of_ble_eq_true rfl) dL_law_1233 ?_
        refine v_aload_n (pc := 1236) 2 dL_law_1236 rfl ?_
        refine v_aload_n (pc := 1237) 0 dL_law_1237 rfl ?_
        refine v_iload (pc := 1238) 4 dL_law_1238 rfl ?_
        refine v_iconst (pc := 1240) (1 : Int32) dL_law_1240 ci_1 ?_
        refine v_iadd (pc := 1241) dL_law_1241 ?_
        replace hf := gd_some hf; obtain ⟨g315, hf⟩ := hf
        refine V_sld (pc := 1242) hF g315 dL_law_1242 ?_
        replace hf := bd_some hf; obtain ⟨r316, h317, hf⟩ := hf
        refine V_call (pc := 1243) (us1 := [_, _, _, _, _, _, _, _, _, _, _, _, _, _, _, _, _, _, _, _, _, _, _, _, _, _, _, _, _, _]) [28] 28 (kX11_count (o := 28) rfl h317) rfl rfl rfl rfl rfl rfl (Nat.le_of_ble_eq_true rfl) rfl rfl rfl wm_RL_178 md_X11_count (Nat.le_of_ble_eq_true rfl) (Nat.le_of_ble_eq_true rfl) rfl rfl (Nat.le_of_ble_eq_true rfl) dL_law_1243 ?_
        refine v_icmp_eq (pc := 1246) 1251 dL_law_1246 (by decide) (fun c318 => ?_) (fun c318 => ?_)
        · replace hf := it_t c318 hf
          refine v_iinc (pc := 1251) 4 (l4 + (6 : Int32)) [(4, _), (0, _), (1, _), (2, _), (3, _)] dL_law_1251 rfl (congrArg (fun z => _ + z) ci_6) (Nat.le_of_ble_eq_true rfl) rfl ?_
          refine v_goto (pc := 1254) 23 dL_law_1254 (by decide) ?_
          exact V_sub [1, 2, 3, 4, 0] rfl (ih hF hb0 hf)
        · replace hf := it_f c318 hf
          refine v_iconst (pc := 1249) (0 : Int32) dL_law_1249 ci_0 ?_
          exact absurd (Option.some.inj hf) (by decide)
      replace hf := it_f c39 hf
      refine v_tsOut 1251 dL_law_40 37 (fun k hk => match k, hk with | 0, _ => c3 | 1, _ => c4 | 2, _ => c5 | 3, _ => c6 | 4, _ => c7 | 5, _ => c8 | 6, _ => c9 | 7, _ => c10 | 8, _ => c11 | 9, _ => c12 | 10, _ => c13 | 11, _ => c14 | 12, _ => c15 | 13, _ => c16 | 14, _ => c17 | 15, _ => c18 | 16, _ => c19 | 17, _ => c20 | 18, _ => c21 | 19, _ => c22 | 20, _ => c23 | 21, _ => c24 | 22, _ => c25 | 23, _ => c26 | 24, _ => c27 | 25, _ => c28 | 26, _ => c29 | 27, _ => c30 | 28, _ => c31 | 29, _ => c32 | 30, _ => c33 | 31, _ => c34 | 32, _ => c35 | 33, _ => c36 | 34, _ => c37 | 35, _ => c38 | 36, _ => c39 | k + 37, h => absurd h (by omega)) (by decide) (by decide) (by decide) ?_
      refine v_iinc (pc := 1251) 4 (l4 + (6 : Int32)) [(4, _), (0, _), (1, _), (2, _), (3, _)] dL_law_1251 rfl (congrArg (fun z => _ + z) ci_6) (Nat.le_of_ble_eq_true rfl) rfl ?_
      refine v_goto (pc := 1254) 23 dL_law_1254 (by decide) ?_
      exact V_sub [1, 2, 3, 4, 0] rfl (ih hF hb0 hf)
