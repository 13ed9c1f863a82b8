/-! MIRRORS: what each method computes, as its bytecode does (written by wip/whole/gen.py) -/
def m_X0_begin (a1 : Int32) (T : Tm) : Option (Int32 × Tm) := nm (wT T 0 0 a1) fun T1 =>
  some (0, T1)
def m_X0_next (T : Tm) : Option (Int32 × Tm) := nm (T 0 0) fun v1 =>
  gd (!decide ((65536 : Int32) = 0)) <|
  nm (wT T 0 0 (((25173 * v1) + 13849) - ((25173 * v1) + 13849) / 65536 * 65536)) fun T2 =>
  nm (T2 0 0) fun v3 =>
  some (v3, T2)
def m_X0_swing (T : Tm) : Option (Int32 × Tm) := bnd (m_X0_next T) fun r1 T2 =>
  gd (!decide ((7282 : Int32) = 0)) <|
  some ((1 + (r1 / 7282)), T2)
def m_X4_copyFrom (k : Nat) (k2 : Nat) (M : Mm) : Option (Int32 × Mm) := nm (uM M k (cT (M k) 1 (M k2 1) 6)) fun M1 =>
  nm (uM M1 k (cT (M1 k) 2 (M1 k2 2) 6)) fun M2 =>
  nm (uM M2 k (cT (M2 k) 3 (M2 k2 3) 30)) fun M3 =>
  nm (uM M3 k (cT (M3 k) 4 (M3 k2 4) 30)) fun M4 =>
  nm (uM M4 k (cT (M4 k) 5 (M4 k2 5) 30)) fun M5 =>
  nm (uM M5 k (cT (M5 k) 6 (M5 k2 6) 30)) fun M6 =>
  nm (uM M6 k (cT (M6 k) 7 (M6 k2 7) 30)) fun M7 =>
  nm (uM M7 k (cT (M7 k) 8 (M7 k2 8) 30)) fun M8 =>
  nm (uM M8 k (cT (M8 k) 9 (M8 k2 9) 30)) fun M9 =>
  nm (uM M9 k (cT (M9 k) 10 (M9 k2 10) 30)) fun M10 =>
  nm (M10 k2 0 10) fun v11 =>
  nm (wM M10 k 0 10 v11) fun M12 =>
  nm (M12 k2 0 11) fun v13 =>
  nm (wM M12 k 0 11 v13) fun M14 =>
  nm (M14 k2 0 12) fun v15 =>
  nm (wM M14 k 0 12 v15) fun M16 =>
  some (0, M16)
def m_X1_bringBack (M : Mm) : Option (Int32 × Mm) := nm (M 12 0 1) fun v1 =>
  if 1 ≤ v1 then
    nm (M 12 0 1) fun v3 =>
    nm (wM M 12 0 1 (v3 - 1)) fun M4 =>
    nm (M4 12 0 1) fun v5 =>
    gd (ib v5 5) <| nm (M4 12 1 v5.toNatClampNeg) fun w6 =>
    gd (sb w6) <| bnd (m_X4_copyFrom 1 w6.toNatClampNeg M4) fun r7 M8 =>
    nm (M8 12 0 1) fun v10 =>
    some (v10, M8)
  else
    some ((-5), M)
def m_X1_dropOldest_9 : Nat → Int32 → Int32 → Tm → Option (Int32 × Tm)
  | 0, _, _, _ => none
  | n + 1, b1, b2, T => if 5 ≤ b2 then
    gd (sb b1) <| gd (ib 4 5) <| nm (wT T 1 ((4 : Int32).toNatClampNeg) b1) fun T2 =>
    nm (T2 0 1) fun v4 =>
    nm (wT T2 0 1 (v4 - 1)) fun T5 =>
    some (0, T5)
  else
    gd (ib b2 5) <| nm (T 1 b2.toNatClampNeg) fun w6 =>
    gd (sb w6) <| gd (ib (b2 - 1) 5) <| nm (wT T 1 ((b2 - 1).toNatClampNeg) w6) fun T7 =>
    m_X1_dropOldest_9 n b1 (b2 + 1) T7
def m_X1_dropOldest (T : Tm) : Option (Int32 × Tm) := gd (ib 0 5) <| nm (T 1 ((0 : Int32).toNatClampNeg)) fun w1 =>
  m_X1_dropOldest_9 fu w1 1 T
def m_X1_keep_12 (M : Mm) : Option (Int32 × Mm) := nm (M 12 0 1) fun v1 =>
  gd (ib v1 5) <| nm (M 12 1 v1.toNatClampNeg) fun w2 =>
  gd (sb w2) <| bnd (m_X4_copyFrom w2.toNatClampNeg 1 M) fun r3 M4 =>
  nm (M4 12 0 1) fun v6 =>
  nm (wM M4 12 0 1 (v6 + 1)) fun M7 =>
  some (0, M7)
def m_X1_keep (M : Mm) : Option (Int32 × Mm) := nm (M 12 0 1) fun v1 =>
  if v1 < 5 then
    m_X1_keep_12 M
  else
    bnd (m_X1_dropOldest (M 12)) fun r3 M4 => nm (uM M 12 M4) fun M5 =>
    m_X1_keep_12 M5
def m_X2_insert_68 (b1 : Int32) (b4 : Int32) (M : Mm) : Option (Int32 × Mm) := gd (ib b4 6) <| nm (wM M 11 1 b4.toNatClampNeg b1) fun M1 =>
  nm (M1 11 0 1) fun v2 =>
  nm (wM M1 11 0 1 (v2 + 1)) fun M3 =>
  some (0, M3)
def m_X2_insert_18 : Nat → Int32 → Int32 → Int32 → Mm → Option (Int32 × Mm)
  | 0, _, _, _, _ => none
  | n + 1, b1, b3, b4, M => if b4 ≤ 0 then
    m_X2_insert_68 b1 b4 M
  else
    gd (ib (b4 - 1) 6) <| nm (M 11 1 ((b4 - 1).toNatClampNeg)) fun v2 =>
    gd (ib v2 30) <| nm (M 1 3 v2.toNatClampNeg) fun v3 =>
    gd (ib v3 6) <| nm (M 1 2 v3.toNatClampNeg) fun v4 =>
    if v4 ≤ b3 then
      m_X2_insert_68 b1 b4 M
    else
      gd (ib (b4 - 1) 6) <| nm (M 11 1 ((b4 - 1).toNatClampNeg)) fun v6 =>
      gd (ib b4 6) <| nm (wM M 11 1 b4.toNatClampNeg v6) fun M7 =>
      m_X2_insert_18 n b1 b3 (b4 + (-1)) M7
def m_X2_insert (a1 : Int32) (M : Mm) : Option (Int32 × Mm) := gd (ib a1 30) <| nm (M 1 3 a1.toNatClampNeg) fun v1 =>
  gd (ib v1 6) <| nm (M 1 2 v1.toNatClampNeg) fun v2 =>
  nm (M 11 0 1) fun v3 =>
  m_X2_insert_18 fu a1 v2 v3 M
def m_X4_conkerToSend_53 (κ5 : Int32 → Int32 → Int32 → Tm → Option (Int32 × Tm)) (b1 : Int32) (b2 : Int32) (b3 : Int32) (T : Tm) : Option (Int32 × Tm) := κ5 b1 b2 (b3 + 1) T
def m_X4_conkerToSend_51 (κ5 : Int32 → Int32 → Int32 → Tm → Option (Int32 × Tm)) (b1 : Int32) (b3 : Int32) (T : Tm) : Option (Int32 × Tm) := m_X4_conkerToSend_53 κ5 b1 b3 b3 T
def m_X4_conkerToSend_5 : Nat → Int32 → Int32 → Int32 → Tm → Option (Int32 × Tm)
  | 0, _, _, _, _ => none
  | n + 1, b1, b2, b3, T => nm (T 0 10) fun v1 =>
  if v1 ≤ b3 then
    some (b2, T)
  else
    gd (ib b3 30) <| nm (T 9 b3.toNatClampNeg) fun v3 =>
    if v3 = 0 then
      gd (ib b3 30) <| nm (T 3 b3.toNatClampNeg) fun v5 =>
      if v5 = b1 then
        if b2 < 0 then
          m_X4_conkerToSend_51 (m_X4_conkerToSend_5 n) b1 b3 T
        else
          gd (ib b3 30) <| nm (T 7 b3.toNatClampNeg) fun v8 =>
          gd (ib b2 30) <| nm (T 7 b2.toNatClampNeg) fun v9 =>
          if v8 ≤ v9 then
            m_X4_conkerToSend_53 (m_X4_conkerToSend_5 n) b1 b2 b3 T
          else
            m_X4_conkerToSend_51 (m_X4_conkerToSend_5 n) b1 b3 T
      else
        m_X4_conkerToSend_53 (m_X4_conkerToSend_5 n) b1 b2 b3 T
    else
      m_X4_conkerToSend_53 (m_X4_conkerToSend_5 n) b1 b2 b3 T
def m_X4_conkerToSend (a1 : Int32) (T : Tm) : Option (Int32 × Tm) := m_X4_conkerToSend_5 fu a1 (-5) 0 T
def m_X2_lineUp_29 (κ7 : Int32 → Mm → Option (Int32 × Mm)) (b2 : Int32) (M : Mm) : Option (Int32 × Mm) := κ7 (b2 + 1) M
def m_X2_lineUp_7 : Nat → Int32 → Mm → Option (Int32 × Mm)
  | 0, _, _ => none
  | n + 1, b2, M => if 6 ≤ b2 then
    some (0, M)
  else
    bnd (m_X4_conkerToSend b2 (M 1)) fun r2 M3 => nm (uM M 1 M3) fun M4 =>
    if r2 < 0 then
      m_X2_lineUp_29 (m_X2_lineUp_7 n) b2 M4
    else
      bnd (m_X2_insert r2 M4) fun r6 M7 =>
      m_X2_lineUp_29 (m_X2_lineUp_7 n) b2 M7
def m_X2_lineUp (M : Mm) : Option (Int32 × Mm) := nm (wM M 11 0 1 0) fun M1 =>
  m_X2_lineUp_7 fu 0 M1
def m_X2_takeOut_11 : Nat → Int32 → Int32 → Tm → Option (Int32 × Tm)
  | 0, _, _, _ => none
  | n + 1, b2, b3, T => nm (T 0 1) fun v1 =>
  if v1 ≤ b3 then
    nm (T 0 1) fun v3 =>
    nm (wT T 0 1 (v3 - 1)) fun T4 =>
    some (b2, T4)
  else
    gd (ib b3 6) <| nm (T 1 b3.toNatClampNeg) fun v5 =>
    gd (ib (b3 - 1) 6) <| nm (wT T 1 ((b3 - 1).toNatClampNeg) v5) fun T6 =>
    m_X2_takeOut_11 n b2 (b3 + 1) T6
def m_X2_takeOut (a1 : Int32) (T : Tm) : Option (Int32 × Tm) := gd (ib a1 6) <| nm (T 1 a1.toNatClampNeg) fun v1 =>
  m_X2_takeOut_11 fu v1 (a1 + 1) T
def m_X3_sign (T : Tm) : Option (Int32 × Tm) := nm (T 0 2) fun v1 =>
  if v1 < 0 then
    some (0, T)
  else
    nm (T 0 2) fun v3 =>
    nm (T 0 1) fun v4 =>
    if v4 ≤ v3 then
      some (0, T)
    else
      nm (T 0 2) fun v6 =>
      gd (ib v6 60) <| nm (T 1 v6.toNatClampNeg) fun v7 =>
      gd (nb .char v7) (some (v7, T))
def m_X3_digit (T : Tm) : Option (Int32 × Tm) := bnd (m_X3_sign T) fun r1 T2 =>
  if r1 < 48 then
    some ((-5), T2)
  else
    if 57 < r1 then
      some ((-5), T2)
    else
      some ((r1 - 48), T2)
def m_X3_rewind (T : Tm) : Option (Int32 × Tm) := nm (wT T 0 2 0) fun T1 =>
  some (0, T1)
def m_X3_readConker_58 (b1 : Int32) (T : Tm) : Option (Int32 × Tm) := some (b1, T)
def m_X3_readConker_37 (b1 : Int32) (b2 : Int32) (T : Tm) : Option (Int32 × Tm) := if b2 < 0 then
    m_X3_readConker_58 b1 T
  else
    nm (T 0 2) fun v2 =>
    nm (wT T 0 2 (v2 + 1)) fun T3 =>
    some (((10 * b1) + b2), T3)
def m_X3_readConker (T : Tm) : Option (Int32 × Tm) := bnd (m_X3_digit T) fun r1 T2 =>
  if 0 ≤ r1 then
    nm (T2 0 2) fun v4 =>
    nm (wT T2 0 2 (v4 + 1)) fun T5 =>
    bnd (m_X3_digit T5) fun r6 T7 =>
    if r1 = 1 then
      m_X3_readConker_37 r1 r6 T7
    else
      if r1 = 2 then
        m_X3_readConker_37 r1 r6 T7
      else
        m_X3_readConker_58 r1 T7
  else
    some ((-5), T2)
def m_X3_take (a1 : Int32) (T : Tm) : Option (Int32 × Tm) := bnd (m_X3_sign T) fun r1 T2 =>
  if r1 = a1 then
    nm (T2 0 2) fun v4 =>
    nm (wT T2 0 2 (v4 + 1)) fun T5 =>
    some (1, T5)
  else
    some (0, T2)
def m_X3_readOrder_26 (T : Tm) : Option (Int32 × Tm) := nm (T 0 2) fun v1 =>
  nm (wT T 0 2 (v1 + 1)) fun T2 =>
  bnd (m_X3_readConker T2) fun r3 T4 =>
  nm (wT T4 0 4 r3) fun T5 =>
  nm (T5 0 4) fun v6 =>
  if v6 < 0 then
    some (0, T5)
  else
    some (1, T5)
def m_X3_readOrder (T : Tm) : Option (Int32 × Tm) := bnd (m_X3_sign T) fun r1 T2 =>
  gd (nb .char r1) <|
  nm (wT T2 0 3 r1) fun T4 =>
  nm (T4 0 3) fun v5 =>
  if v5 = 116 then
    m_X3_readOrder_26 T4
  else
    nm (T4 0 3) fun v7 =>
    if v7 = 115 then
      m_X3_readOrder_26 T4
    else
      nm (wT T4 0 3 120) fun T9 =>
      bnd (m_X3_readConker T9) fun r10 T11 =>
      nm (wT T11 0 4 r10) fun T12 =>
      nm (T12 0 4) fun v13 =>
      if v13 < 0 then
        some (0, T12)
      else
        bnd (m_X3_take 120 T12) fun r15 T16 =>
        if r15 = 0 then
          some (0, T16)
        else
          bnd (m_X3_readConker T16) fun r18 T19 =>
          nm (wT T19 0 5 r18) fun T20 =>
          nm (T20 0 5) fun v21 =>
          if v21 < 0 then
            some (0, T20)
          else
            bnd (m_X3_take 58 T20) fun r23 T24 =>
            if r23 = 0 then
              some (0, T24)
            else
              bnd (m_X3_digit T24) fun r26 T27 =>
              nm (wT T27 0 6 r26) fun T28 =>
              nm (T28 0 6) fun v29 =>
              if 1 ≤ v29 then
                nm (T28 0 2) fun v31 =>
                nm (wT T28 0 2 (v31 + 1)) fun T32 =>
                some (1, T32)
              else
                some (0, T28)
def m_X3_findFault_6 : Nat → Int32 → Tm → Option (Int32 × Tm)
  | 0, _, _ => none
  | n + 1, b1, T => if 60 ≤ b1 then
    nm (T 0 2) fun v2 =>
    some (v2, T)
  else
    bnd (m_X3_readOrder T) fun r3 T4 =>
    if r3 = 0 then
      nm (T4 0 2) fun v6 =>
      some (v6, T4)
    else
      nm (T4 0 2) fun v7 =>
      nm (T4 0 1) fun v8 =>
      if v7 = v8 then
        some ((-5), T4)
      else
        bnd (m_X3_take 44 T4) fun r10 T11 =>
        if r10 = 0 then
          nm (T11 0 2) fun v13 =>
          some (v13, T11)
        else
          m_X3_findFault_6 n (b1 + 1) T11
def m_X3_findFault (T : Tm) : Option (Int32 × Tm) := bnd (m_X3_rewind T) fun r1 T2 =>
  m_X3_findFault_6 fu 0 T2
def m_X4_addConker (a1 : Int32) (a2 : Int32) (T : Tm) : Option (Int32 × Tm) := nm (T 0 10) fun v1 =>
  gd (ib a1 6) <| nm (T 1 a1.toNatClampNeg) fun v2 =>
  gd (ib a1 6) <| nm (wT T 1 a1.toNatClampNeg (v2 - 1)) fun T3 =>
  gd (ib v1 30) <| nm (wT T3 3 v1.toNatClampNeg a1) fun T4 =>
  gd (ib v1 30) <| nm (wT T4 4 v1.toNatClampNeg a2) fun T5 =>
  gd (ib v1 30) <| nm (wT T5 5 v1.toNatClampNeg 0) fun T6 =>
  gd (ib v1 30) <| nm (wT T6 6 v1.toNatClampNeg 0) fun T7 =>
  gd (ib v1 30) <| nm (wT T7 7 v1.toNatClampNeg 0) fun T8 =>
  gd (ib v1 30) <| nm (wT T8 8 v1.toNatClampNeg (-5)) fun T9 =>
  gd (ib v1 30) <| nm (wT T9 9 v1.toNatClampNeg 0) fun T10 =>
  gd (ib v1 30) <| nm (wT T10 10 v1.toNatClampNeg (-5)) fun T11 =>
  nm (T11 0 10) fun v12 =>
  nm (wT T11 0 10 (v12 + 1)) fun T13 =>
  some (v1, T13)
def m_X4_areInPlay (a1 : Int32) (a2 : Int32) (T : Tm) : Option (Int32 × Tm) := gd (ib a1 30) <| nm (T 9 a1.toNatClampNeg) fun v1 =>
  if v1 = 0 then
    gd (ib a2 30) <| nm (T 9 a2.toNatClampNeg) fun v3 =>
    if v3 = 0 then
      some (1, T)
    else
      some (0, T)
  else
    some (0, T)
def m_X4_boastsTold_26 (κ4 : Int32 → Int32 → Tm → Option (Int32 × Tm)) (b1 : Int32) (b2 : Int32) (T : Tm) : Option (Int32 × Tm) := κ4 b1 (b2 + 1) T
def m_X4_boastsTold_4 : Nat → Int32 → Int32 → Tm → Option (Int32 × Tm)
  | 0, _, _, _ => none
  | n + 1, b1, b2, T => nm (T 0 10) fun v1 =>
  if v1 ≤ b2 then
    some (b1, T)
  else
    gd (ib b2 30) <| nm (T 8 b2.toNatClampNeg) fun v3 =>
    if v3 = (-5) then
      m_X4_boastsTold_26 (m_X4_boastsTold_4 n) b1 b2 T
    else
      m_X4_boastsTold_26 (m_X4_boastsTold_4 n) (b1 + 1) b2 T
def m_X4_boastsTold (T : Tm) : Option (Int32 × Tm) := m_X4_boastsTold_4 fu 0 0 T
def m_X4_boastsTooHigh_30 (κ4 : Int32 → Int32 → Tm → Option (Int32 × Tm)) (b1 : Int32) (b2 : Int32) (T : Tm) : Option (Int32 × Tm) := κ4 b1 (b2 + 1) T
def m_X4_boastsTooHigh_4 : Nat → Int32 → Int32 → Tm → Option (Int32 × Tm)
  | 0, _, _, _ => none
  | n + 1, b1, b2, T => nm (T 0 10) fun v1 =>
  if v1 ≤ b2 then
    some (b1, T)
  else
    gd (ib b2 30) <| nm (T 8 b2.toNatClampNeg) fun v3 =>
    gd (ib b2 30) <| nm (T 7 b2.toNatClampNeg) fun v4 =>
    if v3 ≤ v4 then
      m_X4_boastsTooHigh_30 (m_X4_boastsTooHigh_4 n) b1 b2 T
    else
      m_X4_boastsTooHigh_30 (m_X4_boastsTooHigh_4 n) (b1 + 1) b2 T
def m_X4_boastsTooHigh (T : Tm) : Option (Int32 × Tm) := m_X4_boastsTooHigh_4 fu 0 0 T
def m_X5_isWithin (a0 : Int32) (a1 : Int32) (a2 : Int32) (M : Mm) : Option (Int32 × Mm) := if a0 < a1 then
    some (0, M)
  else
    if a2 < a0 then
      some (0, M)
    else
      some (1, M)
def m_X4_hasConker (a1 : Int32) (T : Tm) : Option (Int32 × Tm) := nm (T 0 10) fun v1 =>
  bnd (m_X5_isWithin a1 0 (v1 - 1) M00) fun r2 _ =>
  gd (nb .boolean r2) (some (r2, T))
def m_X4_pairError_49 (T : Tm) : Option (Int32 × Tm) := some ((-4), T)
def m_X4_pairError (a1 : Int32) (a2 : Int32) (a3 : Int32) (T : Tm) : Option (Int32 × Tm) := bnd (m_X4_hasConker a1 T) fun r1 T2 =>
  if r1 = 0 then
    some ((-1), T2)
  else
    bnd (m_X4_hasConker a2 T2) fun r4 T5 =>
    if r4 = 0 then
      some ((-1), T5)
    else
      if a3 = 0 then
        some ((-2), T5)
      else
        gd (ib a1 30) <| nm (T5 3 a1.toNatClampNeg) fun v8 =>
        gd (ib a2 30) <| nm (T5 3 a2.toNatClampNeg) fun v9 =>
        if v8 = v9 then
          m_X4_pairError_49 T5
        else
          bnd (m_X4_areInPlay a1 a2 T5) fun r11 T12 =>
          if r11 = 0 then
            m_X4_pairError_49 T12
          else
            some (0, T12)
def m_X4_boutError (a1 : Int32) (a2 : Int32) (a3 : Int32) (T : Tm) : Option (Int32 × Tm) := bnd (m_X5_isWithin a3 0 65535 M00) fun r1 _ =>
  bnd (m_X4_pairError a1 a2 r1 T) fun r2 T3 =>
  some (r2, T3)
def m_X4_conkersAheadOf_84 (κ4 : Int32 → Int32 → Int32 → Tm → Option (Int32 × Tm)) (b1 : Int32) (b2 : Int32) (b3 : Int32) (T : Tm) : Option (Int32 × Tm) := κ4 b1 b2 (b3 + 1) T
def m_X4_conkersAheadOf_81 (κ4 : Int32 → Int32 → Int32 → Tm → Option (Int32 × Tm)) (b1 : Int32) (b2 : Int32) (b3 : Int32) (T : Tm) : Option (Int32 × Tm) := m_X4_conkersAheadOf_84 κ4 b1 (b2 + 1) b3 T
def m_X4_conkersAheadOf_59 (κ4 : Int32 → Int32 → Int32 → Tm → Option (Int32 × Tm)) (b1 : Int32) (b2 : Int32) (b3 : Int32) (b4 : Int32) (s0 : Int32) (T : Tm) : Option (Int32 × Tm) := gd (ib b3 30) <| nm (T 9 b3.toNatClampNeg) fun v1 =>
  if v1 = 2 then
    m_X4_conkersAheadOf_84 κ4 b1 b2 b3 T
  else
    if b4 = 0 then
      if s0 = 0 then
        m_X4_conkersAheadOf_84 κ4 b1 b2 b3 T
      else
        m_X4_conkersAheadOf_81 κ4 b1 b2 b3 T
    else
      m_X4_conkersAheadOf_81 κ4 b1 b2 b3 T
def m_X4_conkersAheadOf_58 (κ4 : Int32 → Int32 → Int32 → Tm → Option (Int32 × Tm)) (b1 : Int32) (b2 : Int32) (b3 : Int32) (b4 : Int32) (T : Tm) : Option (Int32 × Tm) := m_X4_conkersAheadOf_59 κ4 b1 b2 b3 b4 0 T
def m_X4_conkersAheadOf_32 (κ4 : Int32 → Int32 → Int32 → Tm → Option (Int32 × Tm)) (b1 : Int32) (b2 : Int32) (b3 : Int32) (s0 : Int32) (T : Tm) : Option (Int32 × Tm) := gd (ib b3 30) <| nm (T 7 b3.toNatClampNeg) fun v1 =>
  gd (ib b1 30) <| nm (T 7 b1.toNatClampNeg) fun v2 =>
  if v1 = v2 then
    if b1 ≤ b3 then
      m_X4_conkersAheadOf_58 κ4 b1 b2 b3 s0 T
    else
      m_X4_conkersAheadOf_59 κ4 b1 b2 b3 s0 1 T
  else
    m_X4_conkersAheadOf_58 κ4 b1 b2 b3 s0 T
def m_X4_conkersAheadOf_4 : Nat → Int32 → Int32 → Int32 → Tm → Option (Int32 × Tm)
  | 0, _, _, _, _ => none
  | n + 1, b1, b2, b3, T => nm (T 0 10) fun v1 =>
  if v1 ≤ b3 then
    some (b2, T)
  else
    gd (ib b3 30) <| nm (T 7 b3.toNatClampNeg) fun v3 =>
    gd (ib b1 30) <| nm (T 7 b1.toNatClampNeg) fun v4 =>
    if v3 ≤ v4 then
      m_X4_conkersAheadOf_32 (m_X4_conkersAheadOf_4 n) b1 b2 b3 0 T
    else
      m_X4_conkersAheadOf_32 (m_X4_conkersAheadOf_4 n) b1 b2 b3 1 T
def m_X4_conkersAheadOf (a1 : Int32) (T : Tm) : Option (Int32 × Tm) := m_X4_conkersAheadOf_4 fu a1 0 0 T
def m_X4_conkerAtRank_31 (κ2 : Int32 → Int32 → Tm → Option (Int32 × Tm)) (b1 : Int32) (b2 : Int32) (T : Tm) : Option (Int32 × Tm) := κ2 b1 (b2 + 1) T
def m_X4_conkerAtRank_2 : Nat → Int32 → Int32 → Tm → Option (Int32 × Tm)
  | 0, _, _, _ => none
  | n + 1, b1, b2, T => nm (T 0 10) fun v1 =>
  if v1 ≤ b2 then
    some ((-5), T)
  else
    gd (ib b2 30) <| nm (T 9 b2.toNatClampNeg) fun v3 =>
    if v3 = 2 then
      m_X4_conkerAtRank_31 (m_X4_conkerAtRank_2 n) b1 b2 T
    else
      bnd (m_X4_conkersAheadOf b2 T) fun r5 T6 =>
      if r5 = b1 then
        some (b2, T6)
      else
        m_X4_conkerAtRank_31 (m_X4_conkerAtRank_2 n) b1 b2 T6
def m_X4_conkerAtRank (a1 : Int32) (T : Tm) : Option (Int32 × Tm) := m_X4_conkerAtRank_2 fu a1 0 T
def m_X4_isOf_15 (T : Tm) : Option (Int32 × Tm) := some (1, T)
def m_X4_isOf (a1 : Int32) (a2 : Int32) (T : Tm) : Option (Int32 × Tm) := if a2 = (-1) then
    m_X4_isOf_15 T
  else
    gd (ib a1 30) <| nm (T 3 a1.toNatClampNeg) fun v2 =>
    if v2 = a2 then
      m_X4_isOf_15 T
    else
      some (0, T)
def m_X4_conkersBeing_38 (κ5 : Int32 → Int32 → Int32 → Int32 → Tm → Option (Int32 × Tm)) (b1 : Int32) (b2 : Int32) (b3 : Int32) (b4 : Int32) (T : Tm) : Option (Int32 × Tm) := κ5 b1 b2 b3 (b4 + 1) T
def m_X4_conkersBeing_5 : Nat → Int32 → Int32 → Int32 → Int32 → Tm → Option (Int32 × Tm)
  | 0, _, _, _, _, _ => none
  | n + 1, b1, b2, b3, b4, T => nm (T 0 10) fun v1 =>
  if v1 ≤ b4 then
    some (b3, T)
  else
    gd (ib b4 30) <| nm (T 9 b4.toNatClampNeg) fun v3 =>
    if v3 = b1 then
      bnd (m_X4_isOf b4 b2 T) fun r5 T6 =>
      if r5 = 0 then
        m_X4_conkersBeing_38 (m_X4_conkersBeing_5 n) b1 b2 b3 b4 T6
      else
        m_X4_conkersBeing_38 (m_X4_conkersBeing_5 n) b1 b2 (b3 + 1) b4 T6
    else
      m_X4_conkersBeing_38 (m_X4_conkersBeing_5 n) b1 b2 b3 b4 T
def m_X4_conkersBeing (a1 : Int32) (a2 : Int32) (T : Tm) : Option (Int32 × Tm) := m_X4_conkersBeing_5 fu a1 a2 0 0 T
def m_X4_conkersSmashedBy_25 (κ4 : Int32 → Int32 → Int32 → Tm → Option (Int32 × Tm)) (b1 : Int32) (b2 : Int32) (b3 : Int32) (T : Tm) : Option (Int32 × Tm) := κ4 b1 b2 (b3 + 1) T
def m_X4_conkersSmashedBy_4 : Nat → Int32 → Int32 → Int32 → Tm → Option (Int32 × Tm)
  | 0, _, _, _, _ => none
  | n + 1, b1, b2, b3, T => nm (T 0 10) fun v1 =>
  if v1 ≤ b3 then
    some (b2, T)
  else
    gd (ib b3 30) <| nm (T 10 b3.toNatClampNeg) fun v3 =>
    if v3 = b1 then
      m_X4_conkersSmashedBy_25 (m_X4_conkersSmashedBy_4 n) b1 (b2 + 1) b3 T
    else
      m_X4_conkersSmashedBy_25 (m_X4_conkersSmashedBy_4 n) b1 b2 b3 T
def m_X4_conkersSmashedBy (a1 : Int32) (T : Tm) : Option (Int32 × Tm) := m_X4_conkersSmashedBy_4 fu a1 0 0 T
def m_X4_conkersWithHeir (T : Tm) : Option (Int32 × Tm) := nm (T 0 10) fun v1 =>
  bnd (m_X4_conkersSmashedBy (-5) T) fun r2 T3 =>
  some ((v1 - r2), T3)
def m_X4_takeVictoriesOfSmashed (a1 : Int32) (T : Tm) : Option (Int32 × Tm) := gd (ib a1 30) <| nm (T 7 a1.toNatClampNeg) fun v1 =>
  gd (ib a1 30) <| nm (wT T 7 a1.toNatClampNeg 0) fun T2 =>
  gd (ib a1 30) <| nm (wT T2 8 a1.toNatClampNeg (-5)) fun T3 =>
  gd (ib a1 30) <| nm (wT T3 9 a1.toNatClampNeg 2) fun T4 =>
  some (v1, T4)
def m_X4_crush (a1 : Int32) (T : Tm) : Option (Int32 × Tm) := bnd (m_X4_takeVictoriesOfSmashed a1 T) fun r1 T2 =>
  nm (T2 0 11) fun v3 =>
  nm (wT T2 0 11 (v3 + r1)) fun T4 =>
  some (r1, T4)
def m_X4_fallIfWorn (a1 : Int32) (T : Tm) : Option (Int32 × Tm) := gd (ib a1 30) <| nm (T 9 a1.toNatClampNeg) fun v1 =>
  if v1 = 0 then
    gd (ib a1 30) <| nm (T 6 a1.toNatClampNeg) fun v3 =>
    if v3 = 20 then
      gd (ib a1 30) <| nm (wT T 9 a1.toNatClampNeg 1) fun T5 =>
      some (0, T5)
    else
      some (0, T)
  else
    some (0, T)
def m_X4_fallenError (a1 : Int32) (T : Tm) : Option (Int32 × Tm) := bnd (m_X4_hasConker a1 T) fun r1 T2 =>
  if r1 = 0 then
    some ((-1), T2)
  else
    gd (ib a1 30) <| nm (T2 9 a1.toNatClampNeg) fun v4 =>
    if v4 = 1 then
      some (0, T2)
    else
      some ((-4), T2)
def m_X4_quotient (a0 : Int32) (a1 : Int32) (M : Mm) : Option (Int32 × Mm) := if 1 ≤ a1 then
    gd (!decide (a1 = 0)) <|
    some ((a0 / a1), M)
  else
    some (0, M)
def m_X4_inherit (a1 : Int32) (a2 : Int32) (T : Tm) : Option (Int32 × Tm) := gd (ib a1 30) <| nm (T 7 a1.toNatClampNeg) fun v1 =>
  bnd (m_X4_takeVictoriesOfSmashed a2 T) fun r2 T3 =>
  gd (ib a1 30) <| nm (wT T3 7 a1.toNatClampNeg (v1 + (1 + r2))) fun T4 =>
  gd (ib a2 30) <| nm (wT T4 10 a2.toNatClampNeg a1) fun T5 =>
  some (0, T5)
def m_X4_settleSmashes_59 (b1 : Int32) (b2 : Int32) (b3 : Int32) (b4 : Int32) (T : Tm) : Option (Int32 × Tm) := if b3 = 0 then
    if b4 = 0 then
      some (0, T)
    else
      bnd (m_X4_inherit b1 b2 T) fun r3 T4 =>
      some (0, T4)
  else
    bnd (m_X4_inherit b2 b1 T) fun r5 T6 =>
    some (0, T6)
def m_X4_settleSmashes_33 (b1 : Int32) (b2 : Int32) (b3 : Int32) (s0 : Int32) (T : Tm) : Option (Int32 × Tm) := if b3 = 0 then
    m_X4_settleSmashes_59 b1 b2 b3 s0 T
  else
    if s0 = 0 then
      m_X4_settleSmashes_59 b1 b2 b3 s0 T
    else
      bnd (m_X4_crush b1 T) fun r3 T4 =>
      bnd (m_X4_crush b2 T4) fun r5 T6 =>
      some (0, T6)
def m_X4_settleSmashes_16 (b1 : Int32) (b2 : Int32) (s0 : Int32) (T : Tm) : Option (Int32 × Tm) := gd (ib b2 30) <| nm (T 5 b2.toNatClampNeg) fun v1 =>
  if v1 = 100 then
    m_X4_settleSmashes_33 b1 b2 s0 1 T
  else
    m_X4_settleSmashes_33 b1 b2 s0 0 T
def m_X4_settleSmashes (a1 : Int32) (a2 : Int32) (T : Tm) : Option (Int32 × Tm) := gd (ib a1 30) <| nm (T 5 a1.toNatClampNeg) fun v1 =>
  if v1 = 100 then
    m_X4_settleSmashes_16 a1 a2 1 T
  else
    m_X4_settleSmashes_16 a1 a2 0 T
def m_X4_outcome (a1 : Int32) (a2 : Int32) (a3 : Int32) (T : Tm) : Option (Int32 × Tm) := gd (ib a1 30) <| nm (T 9 a1.toNatClampNeg) fun v1 =>
  if v1 = 2 then
    some (a2, T)
  else
    gd (ib a1 30) <| nm (T 9 a1.toNatClampNeg) fun v3 =>
    if v3 = 1 then
      some (a3, T)
    else
      some (0, T)
def m_X4_hit_112 (b1 : Int32) (b2 : Int32) (s1 : Int32) (s2 : Int32) (s3 : Int32) (T : Tm) : Option (Int32 × Tm) := nm (mn (s2 + s3) 20) fun v1 =>
  gd (ib s1 30) <| nm (wT T 6 s1.toNatClampNeg v1) fun T2 =>
  gd (ib b2 30) <| nm (T2 6 b2.toNatClampNeg) fun v3 =>
  nm (mn (v3 + 1) 20) fun v4 =>
  gd (ib b2 30) <| nm (wT T2 6 b2.toNatClampNeg v4) fun T5 =>
  bnd (m_X4_settleSmashes b1 b2 T5) fun r6 T7 =>
  bnd (m_X4_fallIfWorn b1 T7) fun r8 T9 =>
  bnd (m_X4_fallIfWorn b2 T9) fun r10 T11 =>
  bnd (m_X4_outcome b1 1 4 T11) fun r12 T13 =>
  bnd (m_X4_outcome b2 2 8 T13) fun r14 T15 =>
  some ((r12 + r14), T15)
def m_X4_hit (a1 : Int32) (a2 : Int32) (a3 : Int32) (T : Tm) : Option (Int32 × Tm) := gd (ib a1 30) <| nm (T 4 a1.toNatClampNeg) fun v1 =>
  gd (ib a2 30) <| nm (T 4 a2.toNatClampNeg) fun v2 =>
  bnd (m_X4_quotient (a3 * v1) v2 M00) fun r3 _ =>
  gd (ib a2 30) <| nm (T 4 a2.toNatClampNeg) fun v4 =>
  gd (ib a1 30) <| nm (T 4 a1.toNatClampNeg) fun v5 =>
  bnd (m_X4_quotient (a3 * v4) (2 * v5) M00) fun r6 _ =>
  nm (T 0 12) fun v7 =>
  nm (wT T 0 12 (v7 + 1)) fun T8 =>
  gd (ib a2 30) <| nm (T8 5 a2.toNatClampNeg) fun v9 =>
  nm (mn (v9 + r3) 100) fun v10 =>
  gd (ib a2 30) <| nm (wT T8 5 a2.toNatClampNeg v10) fun T11 =>
  gd (ib a1 30) <| nm (T11 5 a1.toNatClampNeg) fun v12 =>
  nm (mn (v12 + r6) 100) fun v13 =>
  gd (ib a1 30) <| nm (wT T11 5 a1.toNatClampNeg v13) fun T14 =>
  gd (ib a1 30) <| nm (T14 6 a1.toNatClampNeg) fun v15 =>
  if a3 ≤ 6 then
    m_X4_hit_112 a1 a2 a1 v15 1 T14
  else
    m_X4_hit_112 a1 a2 a1 v15 2 T14
def m_X4_fight_66 (k : Nat) (b6 : Int32) (M : Mm) : Option (Int32 × Mm) := some (b6, M)
def m_X4_fight_17 (k : Nat) : Nat → Int32 → Int32 → Int32 → Mm → Option (Int32 × Mm)
  | 0, _, _, _, _ => none
  | n + 1, b4, b5, b6, M => if 20 ≤ b6 then
    m_X4_fight_66 k b6 M
  else
    bnd (m_X4_areInPlay b4 b5 (M k)) fun r2 M3 => nm (uM M k M3) fun M4 =>
    if r2 = 0 then
      m_X4_fight_66 k b6 M4
    else
      bnd (m_X0_swing (M4 10)) fun r6 M7 => nm (uM M4 10 M7) fun M8 =>
      bnd (m_X4_hit b4 b5 r6 (M8 k)) fun r9 M10 => nm (uM M8 k M10) fun M11 =>
      m_X4_fight_17 k n b5 b4 (b6 + 1) M11
def m_X4_fight (k : Nat) (a1 : Int32) (a2 : Int32) (M : Mm) : Option (Int32 × Mm) := nm (mn a1 a2) fun v1 =>
  nm (mx a1 a2) fun v2 =>
  m_X4_fight_17 k fu v1 v2 0 M
def m_X4_isInLineOf_10 : Nat → Int32 → Int32 → Int32 → Tm → Option (Int32 × Tm)
  | 0, _, _, _, _ => none
  | n + 1, b2, b3, b4, T => nm (T 0 10) fun v1 =>
  if v1 ≤ b4 then
    some (0, T)
  else
    bnd (m_X4_hasConker b3 T) fun r3 T4 =>
    if r3 = 0 then
      some (0, T4)
    else
      if b3 = b2 then
        some (1, T4)
      else
        gd (ib b3 30) <| nm (T4 10 b3.toNatClampNeg) fun v7 =>
        m_X4_isInLineOf_10 n b2 v7 (b4 + 1) T4
def m_X4_isInLineOf (a1 : Int32) (a2 : Int32) (T : Tm) : Option (Int32 × Tm) := gd (ib a1 30) <| nm (T 10 a1.toNatClampNeg) fun v1 =>
  m_X4_isInLineOf_10 fu a2 v1 0 T
def m_X4_lengthOfLine_24 (κ4 : Int32 → Int32 → Int32 → Tm → Option (Int32 × Tm)) (b1 : Int32) (b2 : Int32) (b3 : Int32) (T : Tm) : Option (Int32 × Tm) := κ4 b1 b2 (b3 + 1) T
def m_X4_lengthOfLine_4 : Nat → Int32 → Int32 → Int32 → Tm → Option (Int32 × Tm)
  | 0, _, _, _, _ => none
  | n + 1, b1, b2, b3, T => nm (T 0 10) fun v1 =>
  if v1 ≤ b3 then
    some (b2, T)
  else
    bnd (m_X4_isInLineOf b3 b1 T) fun r3 T4 =>
    if r3 = 0 then
      m_X4_lengthOfLine_24 (m_X4_lengthOfLine_4 n) b1 b2 b3 T4
    else
      m_X4_lengthOfLine_24 (m_X4_lengthOfLine_4 n) b1 (b2 + 1) b3 T4
def m_X4_lengthOfLine (a1 : Int32) (T : Tm) : Option (Int32 × Tm) := m_X4_lengthOfLine_4 fu a1 0 0 T
def m_X4_mendError (a1 : Int32) (T : Tm) : Option (Int32 × Tm) := bnd (m_X4_fallenError a1 T) fun r1 T2 =>
  if r1 = 0 then
    gd (ib a1 30) <| nm (T2 3 a1.toNatClampNeg) fun v4 =>
    gd (ib v4 6) <| nm (T2 1 v4.toNatClampNeg) fun v5 =>
    if 1 ≤ v5 then
      some (0, T2)
    else
      some ((-4), T2)
  else
    some (r1, T2)
def m_X4_settleBoast_25 (b2 : Int32) (s0 : Int32) (T : Tm) : Option (Int32 × Tm) := gd (ib s0 6) <| nm (T 2 s0.toNatClampNeg) fun v1 =>
  gd (ib s0 6) <| nm (wT T 2 s0.toNatClampNeg (v1 + 1)) fun T2 =>
  gd (ib b2 30) <| nm (wT T2 8 b2.toNatClampNeg (-5)) fun T3 =>
  some (s0, T3)
def m_X4_settleBoast (a1 : Int32) (a2 : Int32) (T : Tm) : Option (Int32 × Tm) := gd (ib a2 30) <| nm (T 8 a2.toNatClampNeg) fun v1 =>
  gd (ib a2 30) <| nm (T 7 a2.toNatClampNeg) fun v2 =>
  if v1 ≤ v2 then
    m_X4_settleBoast_25 a2 a1 T
  else
    gd (ib a2 30) <| nm (T 3 a2.toNatClampNeg) fun v4 =>
    m_X4_settleBoast_25 a2 v4 T
def m_X4_strikeError (a1 : Int32) (a2 : Int32) (a3 : Int32) (T : Tm) : Option (Int32 × Tm) := bnd (m_X5_isWithin a3 1 9 M00) fun r1 _ =>
  bnd (m_X4_pairError a1 a2 r1 T) fun r2 T3 =>
  some (r2, T3)
def m_X4_threadAgain (a1 : Int32) (T : Tm) : Option (Int32 × Tm) := gd (ib a1 30) <| nm (T 3 a1.toNatClampNeg) fun v1 =>
  gd (ib v1 6) <| nm (T 1 v1.toNatClampNeg) fun v2 =>
  gd (ib v1 6) <| nm (wT T 1 v1.toNatClampNeg (v2 - 1)) fun T3 =>
  gd (ib a1 30) <| nm (wT T3 6 a1.toNatClampNeg 0) fun T4 =>
  gd (ib a1 30) <| nm (wT T4 9 a1.toNatClampNeg 0) fun T5 =>
  gd (ib v1 6) <| nm (T5 1 v1.toNatClampNeg) fun v6 =>
  some (v6, T5)
def m_X4_victoriesOf_30 (κ4 : Int32 → Int32 → Int32 → Tm → Option (Int32 × Tm)) (b1 : Int32) (b2 : Int32) (b3 : Int32) (T : Tm) : Option (Int32 × Tm) := κ4 b1 b2 (b3 + 1) T
def m_X4_victoriesOf_4 : Nat → Int32 → Int32 → Int32 → Tm → Option (Int32 × Tm)
  | 0, _, _, _, _ => none
  | n + 1, b1, b2, b3, T => nm (T 0 10) fun v1 =>
  if v1 ≤ b3 then
    some (b2, T)
  else
    bnd (m_X4_isOf b3 b1 T) fun r3 T4 =>
    if r3 = 0 then
      m_X4_victoriesOf_30 (m_X4_victoriesOf_4 n) b1 b2 b3 T4
    else
      gd (ib b3 30) <| nm (T4 7 b3.toNatClampNeg) fun v6 =>
      m_X4_victoriesOf_30 (m_X4_victoriesOf_4 n) b1 (b2 + v6) b3 T4
def m_X4_victoriesOf (a1 : Int32) (T : Tm) : Option (Int32 × Tm) := m_X4_victoriesOf_4 fu a1 0 0 T
def m_X5_append (a1 : Int32) (M : Mm) : Option (Int32 × Mm) := bnd (m_X5_isWithin a1 32 126 M00) fun r1 _ =>
  if r1 = 0 then
    some ((-2), M)
  else
    nm (M 9 0 1) fun v3 =>
    if v3 < 60 then
      nm (M 9 0 1) fun v5 =>
      gd (ib v5 60) <| nm (wM M 9 1 v5.toNatClampNeg (vp_nar .char ((a1.toUInt32 % 65536).toInt32))) fun M6 =>
      nm (M6 9 0 1) fun v7 =>
      nm (wM M6 9 0 1 (v7 + 1)) fun M8 =>
      nm (M8 9 0 1) fun v9 =>
      some (v9, M8)
    else
      some ((-3), M)
def m_X5_boast (a1 : Int32) (a2 : Int32) (M : Mm) : Option (Int32 × Mm) := bnd (m_X4_hasConker a1 (M 1)) fun r1 M2 => nm (uM M 1 M2) fun M3 =>
  if r1 = 0 then
    some ((-1), M3)
  else
    bnd (m_X5_isWithin a2 0 99 M00) fun r5 _ =>
    if r5 = 0 then
      some ((-2), M3)
    else
      gd (ib a1 30) <| nm (M3 1 9 a1.toNatClampNeg) fun v7 =>
      if v7 = 2 then
        some ((-4), M3)
      else
        bnd (m_X1_keep M3) fun r9 M10 =>
        gd (ib a1 30) <| nm (M10 1 8 a1.toNatClampNeg) fun v11 =>
        gd (ib a1 30) <| nm (wM M10 1 8 a1.toNatClampNeg a2) fun M12 =>
        some (v11, M12)
def m_X5_bout (a1 : Int32) (a2 : Int32) (a3 : Int32) (M : Mm) : Option (Int32 × Mm) := bnd (m_X4_boutError a1 a2 a3 (M 1)) fun r1 M2 => nm (uM M 1 M2) fun M3 =>
  if r1 = 0 then
    bnd (m_X1_keep M3) fun r5 M6 =>
    bnd (m_X0_begin a3 (M6 10)) fun r7 M8 => nm (uM M6 10 M8) fun M9 =>
    bnd (m_X4_fight 1 a1 a2 M9) fun r10 M11 =>
    some (r10, M11)
  else
    some (r1, M3)
def m_X5_carryOutOrder (M : Mm) : Option (Int32 × Mm) := nm (M 9 0 3) fun v1 =>
  if v1 = 115 then
    nm (M 9 0 4) fun v3 =>
    bnd (m_X4_fallenError v3 (M 1)) fun r4 M5 => nm (uM M 1 M5) fun M6 =>
    if r4 = 0 then
      nm (M6 9 0 4) fun v8 =>
      bnd (m_X4_crush v8 (M6 1)) fun r9 M10 => nm (uM M6 1 M10) fun M11 =>
      some (r9, M11)
    else
      some (r4, M6)
  else if v1 = 116 then
    nm (M 9 0 4) fun v13 =>
    bnd (m_X4_mendError v13 (M 1)) fun r14 M15 => nm (uM M 1 M15) fun M16 =>
    if r14 = 0 then
      nm (M16 9 0 4) fun v18 =>
      bnd (m_X4_threadAgain v18 (M16 1)) fun r19 M20 => nm (uM M16 1 M20) fun M21 =>
      some (r19, M21)
    else
      some (r14, M16)
  else 
    nm (M 9 0 4) fun v22 =>
  nm (M 9 0 5) fun v23 =>
  nm (M 9 0 6) fun v24 =>
  bnd (m_X4_strikeError v22 v23 v24 (M 1)) fun r25 M26 => nm (uM M 1 M26) fun M27 =>
  if r25 = 0 then
    nm (M27 9 0 4) fun v29 =>
    nm (M27 9 0 5) fun v30 =>
    nm (M27 9 0 6) fun v31 =>
    bnd (m_X4_hit v29 v30 v31 (M27 1)) fun r32 M33 => nm (uM M27 1 M33) fun M34 =>
    some (r32, M34)
  else
    some (r25, M27)
def m_X5_clearText (M : Mm) : Option (Int32 × Mm) := nm (M 9 0 1) fun v1 =>
  nm (wM M 9 0 1 0) fun M2 =>
  some (v1, M2)
def m_X5_conker (a1 : Int32) (a2 : Int32) (M : Mm) : Option (Int32 × Mm) := bnd (m_X4_hasConker a1 (M 1)) fun r1 M2 => nm (uM M 1 M2) fun M3 =>
  if r1 = 0 then
    some ((-1), M3)
  else
    if a2 = 0 then
      gd (ib a1 30) <| nm (M3 1 3 a1.toNatClampNeg) fun v6 =>
      some (v6, M3)
    else if a2 = 1 then
      gd (ib a1 30) <| nm (M3 1 4 a1.toNatClampNeg) fun v8 =>
      some (v8, M3)
    else if a2 = 2 then
      gd (ib a1 30) <| nm (M3 1 5 a1.toNatClampNeg) fun v10 =>
      some (v10, M3)
    else if a2 = 3 then
      gd (ib a1 30) <| nm (M3 1 6 a1.toNatClampNeg) fun v12 =>
      some (v12, M3)
    else if a2 = 4 then
      gd (ib a1 30) <| nm (M3 1 7 a1.toNatClampNeg) fun v14 =>
      some (v14, M3)
    else if a2 = 5 then
      gd (ib a1 30) <| nm (M3 1 8 a1.toNatClampNeg) fun v16 =>
      some (v16, M3)
    else if a2 = 6 then
      gd (ib a1 30) <| nm (M3 1 9 a1.toNatClampNeg) fun v18 =>
      some (v18, M3)
    else if a2 = 7 then
      gd (ib a1 30) <| nm (M3 1 10 a1.toNatClampNeg) fun v20 =>
      some (v20, M3)
    else if a2 = 8 then
      bnd (m_X4_conkersSmashedBy a1 (M3 1)) fun r22 M23 => nm (uM M3 1 M23) fun M24 =>
      some (r22, M24)
    else 
      some ((-2), M3)
def m_X5_count (a1 : Int32) (M : Mm) : Option (Int32 × Mm) := if a1 = 0 then
    nm (M 1 0 10) fun v2 =>
    some (v2, M)
  else if a1 = 1 then
    bnd (m_X4_conkersBeing 0 (-1) (M 1)) fun r4 M5 => nm (uM M 1 M5) fun M6 =>
    some (r4, M6)
  else if a1 = 2 then
    bnd (m_X4_conkersBeing 1 (-1) (M 1)) fun r8 M9 => nm (uM M 1 M9) fun M10 =>
    some (r8, M10)
  else if a1 = 3 then
    bnd (m_X4_conkersBeing 2 (-1) (M 1)) fun r12 M13 => nm (uM M 1 M13) fun M14 =>
    some (r12, M14)
  else if a1 = 4 then
    bnd (m_X4_victoriesOf (-1) (M 1)) fun r16 M17 => nm (uM M 1 M17) fun M18 =>
    some (r16, M18)
  else if a1 = 5 then
    nm (M 1 0 11) fun v20 =>
    some (v20, M)
  else if a1 = 6 then
    nm (M 1 0 12) fun v22 =>
    some (v22, M)
  else if a1 = 7 then
    bnd (m_X4_conkersWithHeir (M 1)) fun r24 M25 => nm (uM M 1 M25) fun M26 =>
    some (r24, M26)
  else if a1 = 8 then
    bnd (m_X4_boastsTold (M 1)) fun r28 M29 => nm (uM M 1 M29) fun M30 =>
    some (r28, M30)
  else if a1 = 9 then
    bnd (m_X4_boastsTooHigh (M 1)) fun r32 M33 => nm (uM M 1 M33) fun M34 =>
    some (r32, M34)
  else if a1 = 10 then
    nm (M 12 0 1) fun v36 =>
    some (v36, M)
  else if a1 = 11 then
    nm (M 9 0 1) fun v38 =>
    some (v38, M)
  else 
    some ((-2), M)
def m_X5_isPlayer (a0 : Int32) (M : Mm) : Option (Int32 × Mm) := bnd (m_X5_isWithin a0 0 5 M00) fun r1 _ =>
  gd (nb .boolean r1) (some (r1, M))
def m_X5_doubt (a1 : Int32) (a2 : Int32) (M : Mm) : Option (Int32 × Mm) := bnd (m_X5_isPlayer a1 M00) fun r1 _ =>
  if r1 = 0 then
    some ((-1), M)
  else
    bnd (m_X4_hasConker a2 (M 1)) fun r3 M4 => nm (uM M 1 M4) fun M5 =>
    if r3 = 0 then
      some ((-1), M5)
    else
      gd (ib a2 30) <| nm (M5 1 3 a2.toNatClampNeg) fun v7 =>
      if v7 = a1 then
        some ((-2), M5)
      else
        gd (ib a2 30) <| nm (M5 1 8 a2.toNatClampNeg) fun v9 =>
        if v9 = (-5) then
          some ((-4), M5)
        else
          bnd (m_X1_keep M5) fun r11 M12 =>
          bnd (m_X4_settleBoast a1 a2 (M12 1)) fun r13 M14 => nm (uM M12 1 M14) fun M15 =>
          some (r13, M15)
def m_X5_fault (M : Mm) : Option (Int32 × Mm) := bnd (m_X3_findFault (M 9)) fun r1 M2 => nm (uM M 9 M2) fun M3 =>
  some (r1, M3)
def m_X5_give (a1 : Int32) (a2 : Int32) (M : Mm) : Option (Int32 × Mm) := bnd (m_X5_isPlayer a1 M00) fun r1 _ =>
  if r1 = 0 then
    some ((-1), M)
  else
    bnd (m_X5_isWithin a2 1 9 M00) fun r3 _ =>
    if r3 = 0 then
      some ((-2), M)
    else
      gd (ib a1 6) <| nm (M 1 1 a1.toNatClampNeg) fun v5 =>
      if (v5 + a2) ≤ 20 then
        bnd (m_X1_keep M) fun r7 M8 =>
        gd (ib a1 6) <| nm (M8 1 1 a1.toNatClampNeg) fun v9 =>
        gd (ib a1 6) <| nm (wM M8 1 1 a1.toNatClampNeg (v9 + a2)) fun M10 =>
        gd (ib a1 6) <| nm (M10 1 1 a1.toNatClampNeg) fun v11 =>
        some (v11, M10)
      else
        some ((-3), M)
def m_X5_tryHit (a1 : Int32) (a2 : Int32) (a3 : Int32) (M : Mm) : Option (Int32 × Mm) := bnd (m_X4_copyFrom 3 1 M) fun r1 M2 =>
  bnd (m_X4_hit a1 a2 a3 (M2 3)) fun r3 M4 => nm (uM M2 3 M4) fun M5 =>
  some (r3, M5)
def m_X5_ifStruck (a1 : Int32) (a2 : Int32) (a3 : Int32) (M : Mm) : Option (Int32 × Mm) := bnd (m_X4_strikeError a1 a2 a3 (M 1)) fun r1 M2 => nm (uM M 1 M2) fun M3 =>
  if r1 = 0 then
    bnd (m_X5_tryHit a1 a2 a3 M3) fun r5 M6 =>
    some (r5, M6)
  else
    some (r1, M3)
def m_X5_leastSwing_20 : Nat → Int32 → Int32 → Int32 → Mm → Option (Int32 × Mm)
  | 0, _, _, _, _ => none
  | n + 1, b1, b2, b4, M => if 9 < b4 then
    some ((-5), M)
  else
    bnd (m_X5_tryHit b1 b2 b4 M) fun r2 M3 =>
    if (r2 &&& 3) = 2 then
      some (b4, M3)
    else
      m_X5_leastSwing_20 n b1 b2 (b4 + 1) M3
def m_X5_leastSwing (a1 : Int32) (a2 : Int32) (M : Mm) : Option (Int32 × Mm) := bnd (m_X4_strikeError a1 a2 1 (M 1)) fun r1 M2 => nm (uM M 1 M2) fun M3 =>
  if r1 = 0 then
    m_X5_leastSwing_20 fu a1 a2 1 M3
  else
    some (r1, M3)
def m_X5_line (a1 : Int32) (M : Mm) : Option (Int32 × Mm) := bnd (m_X4_hasConker a1 (M 1)) fun r1 M2 => nm (uM M 1 M2) fun M3 =>
  if r1 = 0 then
    some ((-1), M3)
  else
    bnd (m_X4_lengthOfLine a1 (M3 1)) fun r5 M6 => nm (uM M3 1 M6) fun M7 =>
    some (r5, M7)
def m_X5_mend (a1 : Int32) (M : Mm) : Option (Int32 × Mm) := bnd (m_X4_mendError a1 (M 1)) fun r1 M2 => nm (uM M 1 M2) fun M3 =>
  if r1 = 0 then
    bnd (m_X1_keep M3) fun r5 M6 =>
    bnd (m_X4_threadAgain a1 (M6 1)) fun r7 M8 => nm (uM M6 1 M8) fun M9 =>
    some (r7, M9)
  else
    some (r1, M3)
def m_X5_player (a1 : Int32) (a2 : Int32) (M : Mm) : Option (Int32 × Mm) := bnd (m_X5_isPlayer a1 M00) fun r1 _ =>
  if r1 = 0 then
    some ((-1), M)
  else
    if a2 = 0 then
      gd (ib a1 6) <| nm (M 1 1 a1.toNatClampNeg) fun v4 =>
      some (v4, M)
    else if a2 = 1 then
      gd (ib a1 6) <| nm (M 1 2 a1.toNatClampNeg) fun v6 =>
      some (v6, M)
    else if a2 = 2 then
      bnd (m_X4_conkersBeing 0 a1 (M 1)) fun r8 M9 => nm (uM M 1 M9) fun M10 =>
      some (r8, M10)
    else if a2 = 3 then
      bnd (m_X4_conkersBeing 1 a1 (M 1)) fun r12 M13 => nm (uM M 1 M13) fun M14 =>
      some (r12, M14)
    else if a2 = 4 then
      bnd (m_X4_conkersBeing 2 a1 (M 1)) fun r16 M17 => nm (uM M 1 M17) fun M18 =>
      some (r16, M18)
    else if a2 = 5 then
      bnd (m_X4_victoriesOf a1 (M 1)) fun r20 M21 => nm (uM M 1 M21) fun M22 =>
      some (r20, M22)
    else if a2 = 6 then
      bnd (m_X4_conkerToSend a1 (M 1)) fun r24 M25 => nm (uM M 1 M25) fun M26 =>
      some (r24, M26)
    else 
      some ((-2), M)
def m_X5_ranked (a1 : Int32) (M : Mm) : Option (Int32 × Mm) := if 0 ≤ a1 then
    bnd (m_X4_conkerAtRank a1 (M 1)) fun r2 M3 => nm (uM M 1 M3) fun M4 =>
    some (r2, M4)
  else
    some ((-2), M)
def m_X5_restore (M : Mm) : Option (Int32 × Mm) := nm (M 0 0 7) fun v1 =>
  if v1 = 0 then
    some ((-4), M)
  else
    bnd (m_X1_keep M) fun r3 M4 =>
    bnd (m_X4_copyFrom 1 2 M4) fun r5 M6 =>
    bnd (m_X4_conkersBeing 0 (-1) (M6 1)) fun r7 M8 => nm (uM M6 1 M8) fun M9 =>
    some (r7, M9)
def m_X5_round_120 (b2 : Int32) (M : Mm) : Option (Int32 × Mm) := some (b2, M)
def m_X5_round_45 : Nat → Int32 → Mm → Option (Int32 × Mm)
  | 0, _, _ => none
  | n + 1, b2, M => if 6 ≤ b2 then
    m_X5_round_120 b2 M
  else
    nm (M 11 0 1) fun v2 =>
    if v2 < 2 then
      m_X5_round_120 b2 M
    else
      bnd (m_X0_next (M 10)) fun r4 M5 => nm (uM M 10 M5) fun M6 =>
      nm (M6 11 0 1) fun v7 =>
      gd (!decide ((v7 - 1) = 0)) <|
      bnd (m_X2_takeOut (1 + (r4 - r4 / (v7 - 1) * (v7 - 1))) (M6 11)) fun r8 M9 => nm (uM M6 11 M9) fun M10 =>
      bnd (m_X2_takeOut 0 (M10 11)) fun r11 M12 => nm (uM M10 11 M12) fun M13 =>
      bnd (m_X4_fight 1 r11 r8 M13) fun r14 M15 =>
      m_X5_round_45 n (b2 + 1) M15
def m_X5_round (a1 : Int32) (M : Mm) : Option (Int32 × Mm) := bnd (m_X5_isWithin a1 0 65535 M00) fun r1 _ =>
  if r1 = 0 then
    some ((-2), M)
  else
    bnd (m_X1_keep M) fun r3 M4 =>
    bnd (m_X0_begin a1 (M4 10)) fun r5 M6 => nm (uM M4 10 M6) fun M7 =>
    bnd (m_X2_lineUp M7) fun r8 M9 =>
    m_X5_round_45 fu 0 M9
def m_X5_run_79 (b2 : Int32) (M : Mm) : Option (Int32 × Mm) := some (b2, M)
def m_X5_run_39 : Nat → Int32 → Mm → Option (Int32 × Mm)
  | 0, _, _ => none
  | n + 1, b2, M => if 60 ≤ b2 then
    m_X5_run_79 b2 M
  else
    bnd (m_X3_readOrder (M 9)) fun r2 M3 => nm (uM M 9 M3) fun M4 =>
    if r2 = 0 then
      m_X5_run_79 b2 M4
    else
      bnd (m_X5_carryOutOrder M4) fun r6 M7 =>
      if r6 < 0 then
        m_X5_run_79 b2 M7
      else
        bnd (m_X3_take 44 (M7 9)) fun r9 M10 => nm (uM M7 9 M10) fun M11 =>
        if r9 = 0 then
          some ((b2 + 1), M11)
        else
          m_X5_run_39 n (b2 + 1) M11
def m_X5_run (M : Mm) : Option (Int32 × Mm) := bnd (m_X3_findFault (M 9)) fun r1 M2 => nm (uM M 9 M2) fun M3 =>
  if r1 = (-5) then
    bnd (m_X1_keep M3) fun r5 M6 =>
    bnd (m_X3_rewind (M6 9)) fun r7 M8 => nm (uM M6 9 M8) fun M9 =>
    m_X5_run_39 fu 0 M9
  else
    some (((-100) - r1), M3)
def m_X5_save (M : Mm) : Option (Int32 × Mm) := bnd (m_X4_copyFrom 2 1 M) fun r1 M2 =>
  nm (wM M2 0 0 7 1) fun M3 =>
  bnd (m_X4_conkersBeing 0 (-1) (M3 1)) fun r4 M5 => nm (uM M3 1 M5) fun M6 =>
  some (r4, M6)
def m_X5_share_21 (M : Mm) : Option (Int32 × Mm) := some ((FP.fconst0).toInt32, M)
def m_X5_share (a1 : Int32) (M : Mm) : Option (Int32 × Mm) := bnd (m_X4_victoriesOf (-1) (M 1)) fun r1 M2 => nm (uM M 1 M2) fun M3 =>
  bnd (m_X5_isPlayer a1 M00) fun r4 _ =>
  if r4 = 0 then
    m_X5_share_21 M3
  else
    if 1 ≤ r1 then
      bnd (m_X4_victoriesOf a1 (M3 1)) fun r7 M8 => nm (uM M3 1 M8) fun M9 =>
      gd (decide ((FP.fdiv (FP.i2f r7) (FP.i2f r1)) &&& 0x7fffffff ≤ 0x7f800000)) <|
      some (((FP.fdiv (FP.i2f r7) (FP.i2f r1))).toInt32, M9)
    else
      m_X5_share_21 M3
def m_X5_stamp (a1 : Int32) (M : Mm) : Option (Int32 × Mm) := bnd (m_X4_fallenError a1 (M 1)) fun r1 M2 => nm (uM M 1 M2) fun M3 =>
  if r1 = 0 then
    bnd (m_X1_keep M3) fun r5 M6 =>
    bnd (m_X4_crush a1 (M6 1)) fun r7 M8 => nm (uM M6 1 M8) fun M9 =>
    some (r7, M9)
  else
    some (r1, M3)
def m_X5_strike (a1 : Int32) (a2 : Int32) (a3 : Int32) (M : Mm) : Option (Int32 × Mm) := bnd (m_X4_strikeError a1 a2 a3 (M 1)) fun r1 M2 => nm (uM M 1 M2) fun M3 =>
  if r1 = 0 then
    bnd (m_X1_keep M3) fun r5 M6 =>
    bnd (m_X4_hit a1 a2 a3 (M6 1)) fun r7 M8 => nm (uM M6 1 M8) fun M9 =>
    some (r7, M9)
  else
    some (r1, M3)
def m_X5_thread (a1 : Int32) (a2 : Int32) (M : Mm) : Option (Int32 × Mm) := bnd (m_X5_isPlayer a1 M00) fun r1 _ =>
  if r1 = 0 then
    some ((-1), M)
  else
    bnd (m_X5_isWithin a2 1 9 M00) fun r3 _ =>
    if r3 = 0 then
      some ((-2), M)
    else
      gd (ib a1 6) <| nm (M 1 1 a1.toNatClampNeg) fun v5 =>
      if 1 ≤ v5 then
        nm (M 1 0 10) fun v7 =>
        if v7 < 30 then
          bnd (m_X1_keep M) fun r9 M10 =>
          bnd (m_X4_addConker a1 a2 (M10 1)) fun r11 M12 => nm (uM M10 1 M12) fun M13 =>
          some (r11, M13)
        else
          some ((-3), M)
      else
        some ((-4), M)
def m_X5_undo (M : Mm) : Option (Int32 × Mm) := bnd (m_X1_bringBack M) fun r1 M2 =>
  some (r1, M2)
def m_X5_winner_91 (b1 : Int32) (b2 : Int32) (b5 : Int32) (s0 : Int32) (M : Mm) : Option (Int32 × Mm) := if b5 = s0 then
    some ((-5), M)
  else
    if b5 = 0 then
      some (b1, M)
    else
      some (b2, M)
def m_X5_winner_71 (b1 : Int32) (b2 : Int32) (s0 : Int32) (M : Mm) : Option (Int32 × Mm) := gd (ib b2 30) <| nm (M 3 9 b2.toNatClampNeg) fun v1 =>
  if v1 = 2 then
    m_X5_winner_91 b1 b2 s0 1 M
  else
    m_X5_winner_91 b1 b2 s0 0 M
def m_X5_winner (a1 : Int32) (a2 : Int32) (a3 : Int32) (M : Mm) : Option (Int32 × Mm) := bnd (m_X4_boutError a1 a2 a3 (M 1)) fun r1 M2 => nm (uM M 1 M2) fun M3 =>
  if r1 = 0 then
    bnd (m_X4_copyFrom 3 1 M3) fun r5 M6 =>
    bnd (m_X0_begin a3 (M6 10)) fun r7 M8 => nm (uM M6 10 M8) fun M9 =>
    bnd (m_X4_fight 3 a1 a2 M9) fun r10 M11 =>
    gd (ib a1 30) <| nm (M11 3 9 a1.toNatClampNeg) fun v12 =>
    if v12 = 2 then
      m_X5_winner_71 a1 a2 1 M11
    else
      m_X5_winner_71 a1 a2 0 M11
  else
    some (r1, M3)
def m_X6_at (a0 : Int32) (a1 : Int32) (M : Mm) : Option (Int32 × Mm) := some (((a0 + 16) + (8 * a1)), M)
def m_X6_flag (a0 : Int32) (M : Mm) : Option (Int32 × Mm) := if a0 = 0 then
    some (0, M)
  else
    some (1, M)
def m_X6_ahead_86 (κ18 : Int32 → Int32 → Int32 → Int32 → Tm → Option (Int32 × Tm)) (b1 : Int32) (b3 : Int32) (b4 : Int32) (s0 : Int32) (s1 : Int32) (T : Tm) : Option (Int32 × Tm) := bnd (m_X6_flag s1 M00) fun r1 _ =>
  κ18 b1 (s0 + r1) b3 (b4 + 1) T
def m_X6_ahead_85 (κ18 : Int32 → Int32 → Int32 → Int32 → Tm → Option (Int32 × Tm)) (b1 : Int32) (b3 : Int32) (b4 : Int32) (s0 : Int32) (T : Tm) : Option (Int32 × Tm) := m_X6_ahead_86 κ18 b1 b3 b4 s0 0 T
def m_X6_ahead_81 (κ18 : Int32 → Int32 → Int32 → Int32 → Tm → Option (Int32 × Tm)) (b1 : Int32) (b3 : Int32) (b4 : Int32) (s0 : Int32) (T : Tm) : Option (Int32 × Tm) := m_X6_ahead_86 κ18 b1 b3 b4 s0 1 T
def m_X6_ahead_18 : Nat → Int32 → Int32 → Int32 → Int32 → Tm → Option (Int32 × Tm)
  | 0, _, _, _, _, _ => none
  | n + 1, b1, b2, b3, b4, T => gd (ib 0 2048) <| nm (T 1 ((0 : Int32).toNatClampNeg)) fun v1 =>
  if v1 ≤ b4 then
    some (b2, T)
  else
    bnd (m_X6_at 0 b4 M00) fun r3 _ =>
    gd (ib (r3 + 4) 2048) <| nm (T 1 ((r3 + 4).toNatClampNeg)) fun v4 =>
    bnd (m_X6_at 0 b4 M00) fun r5 _ =>
    gd (ib (r5 + 6) 2048) <| nm (T 1 ((r5 + 6).toNatClampNeg)) fun v6 =>
    if v6 = 2 then
      m_X6_ahead_85 (m_X6_ahead_18 n) b1 b3 b4 b2 T
    else
      if b3 < v4 then
        m_X6_ahead_81 (m_X6_ahead_18 n) b1 b3 b4 b2 T
      else
        if v4 = b3 then
          if b1 ≤ b4 then
            m_X6_ahead_85 (m_X6_ahead_18 n) b1 b3 b4 b2 T
          else
            m_X6_ahead_81 (m_X6_ahead_18 n) b1 b3 b4 b2 T
        else
          m_X6_ahead_85 (m_X6_ahead_18 n) b1 b3 b4 b2 T
def m_X6_ahead (a1 : Int32) (T : Tm) : Option (Int32 × Tm) := bnd (m_X6_at 0 a1 M00) fun r1 _ =>
  gd (ib (r1 + 4) 2048) <| nm (T 1 ((r1 + 4).toNatClampNeg)) fun v2 =>
  m_X6_ahead_18 fu a1 0 v2 0 T
def m_X6_in (a0 : Int32) (a1 : Int32) (a2 : Int32) (M : Mm) : Option (Int32 × Mm) := if a0 < a1 then
    some (0, M)
  else
    if a2 < a0 then
      some (0, M)
    else
      some (1, M)
def m_X6_append (a1 : Int32) (T : Tm) : Option (Int32 × Tm) := bnd (m_X6_in a1 32 126 M00) fun r1 _ =>
  if r1 = 0 then
    some ((-2), T)
  else
    nm (T 0 4) fun v3 =>
    if v3 = 60 then
      some ((-3), T)
    else
      nm (T 0 4) fun v5 =>
      gd (ib v5 60) <| nm (wT T 2 v5.toNatClampNeg a1) fun T6 =>
      nm (T6 0 4) fun v7 =>
      nm (wT T6 0 4 (v7 + 1)) fun T8 =>
      nm (T8 0 4) fun v9 =>
      some (v9, T8)
def m_X6_best_93 (κ5 : Int32 → Int32 → Int32 → Tm → Option (Int32 × Tm)) (b1 : Int32) (b3 : Int32) (s0 : Int32) (T : Tm) : Option (Int32 × Tm) := κ5 b1 s0 (b3 + 1) T
def m_X6_best_92 (κ5 : Int32 → Int32 → Int32 → Tm → Option (Int32 × Tm)) (b1 : Int32) (b2 : Int32) (b3 : Int32) (T : Tm) : Option (Int32 × Tm) := m_X6_best_93 κ5 b1 b3 b2 T
def m_X6_best_88 (κ5 : Int32 → Int32 → Int32 → Tm → Option (Int32 × Tm)) (b1 : Int32) (b3 : Int32) (T : Tm) : Option (Int32 × Tm) := m_X6_best_93 κ5 b1 b3 b3 T
def m_X6_best_51 (κ5 : Int32 → Int32 → Int32 → Tm → Option (Int32 × Tm)) (b1 : Int32) (b2 : Int32) (b3 : Int32) (b4 : Int32) (s0 : Int32) (T : Tm) : Option (Int32 × Tm) := if s0 = 0 then
    m_X6_best_92 κ5 b1 b2 b3 T
  else
    if b2 = (-5) then
      m_X6_best_88 κ5 b1 b3 T
    else
      gd (ib (b4 + 4) 2048) <| nm (T 1 ((b4 + 4).toNatClampNeg)) fun v3 =>
      bnd (m_X6_at 0 b2 M00) fun r4 _ =>
      gd (ib (r4 + 4) 2048) <| nm (T 1 ((r4 + 4).toNatClampNeg)) fun v5 =>
      if v3 ≤ v5 then
        m_X6_best_92 κ5 b1 b2 b3 T
      else
        m_X6_best_88 κ5 b1 b3 T
def m_X6_best_50 (κ5 : Int32 → Int32 → Int32 → Tm → Option (Int32 × Tm)) (b1 : Int32) (b2 : Int32) (b3 : Int32) (b4 : Int32) (T : Tm) : Option (Int32 × Tm) := m_X6_best_51 κ5 b1 b2 b3 b4 0 T
def m_X6_best_5 : Nat → Int32 → Int32 → Int32 → Tm → Option (Int32 × Tm)
  | 0, _, _, _, _ => none
  | n + 1, b1, b2, b3, T => gd (ib 0 2048) <| nm (T 1 ((0 : Int32).toNatClampNeg)) fun v1 =>
  if v1 ≤ b3 then
    some (b2, T)
  else
    bnd (m_X6_at 0 b3 M00) fun r3 _ =>
    gd (ib r3 2048) <| nm (T 1 r3.toNatClampNeg) fun v4 =>
    if v4 = b1 then
      gd (ib (r3 + 6) 2048) <| nm (T 1 ((r3 + 6).toNatClampNeg)) fun v6 =>
      if v6 = 0 then
        m_X6_best_51 (m_X6_best_5 n) b1 b2 b3 r3 1 T
      else
        m_X6_best_50 (m_X6_best_5 n) b1 b2 b3 r3 T
    else
      m_X6_best_50 (m_X6_best_5 n) b1 b2 b3 r3 T
def m_X6_best (a1 : Int32) (T : Tm) : Option (Int32 × Tm) := m_X6_best_5 fu a1 (-5) 0 T
def m_X6_isConker (a1 : Int32) (T : Tm) : Option (Int32 × Tm) := gd (ib 0 2048) <| nm (T 1 ((0 : Int32).toNatClampNeg)) fun v1 =>
  bnd (m_X6_in a1 0 (v1 - 1) M00) fun r2 _ =>
  gd (nb .boolean r2) (some (r2, T))
def m_X6_copies_2 : Nat → Int32 → Int32 → Int32 → Tm → Option (Int32 × Tm)
  | 0, _, _, _, _ => none
  | n + 1, b1, b2, b3, T => if 256 ≤ b3 then
    some (0, T)
  else
    gd (ib ((256 * b1) + b3) 2048) <| nm (T 1 (((256 * b1) + b3).toNatClampNeg)) fun v2 =>
    gd (ib ((256 * b2) + b3) 2048) <| nm (wT T 1 (((256 * b2) + b3).toNatClampNeg) v2) fun T3 =>
    m_X6_copies_2 n b1 b2 (b3 + 1) T3
def m_X6_copies (a1 : Int32) (a2 : Int32) (T : Tm) : Option (Int32 × Tm) := m_X6_copies_2 fu a1 a2 0 T
def m_X6_records_39 (T : Tm) : Option (Int32 × Tm) := nm (T 0 1) fun v1 =>
  nm (wT T 0 1 (v1 + 1)) fun T2 =>
  nm (T2 0 1) fun v3 =>
  bnd (m_X6_copies 0 v3 T2) fun r4 T5 =>
  some (0, T5)
def m_X6_records_10 : Nat → Int32 → Tm → Option (Int32 × Tm)
  | 0, _, _ => none
  | n + 1, b1, T => if 5 ≤ b1 then
    nm (T 0 1) fun v2 =>
    nm (wT T 0 1 (v2 - 1)) fun T3 =>
    m_X6_records_39 T3
  else
    bnd (m_X6_copies (b1 + 1) b1 T) fun r4 T5 =>
    m_X6_records_10 n (b1 + 1) T5
def m_X6_records (T : Tm) : Option (Int32 × Tm) := nm (T 0 1) fun v1 =>
  if v1 = 5 then
    m_X6_records_10 fu 1 T
  else
    m_X6_records_39 T
def m_X6_boast (a1 : Int32) (a2 : Int32) (T : Tm) : Option (Int32 × Tm) := bnd (m_X6_isConker a1 T) fun r1 T2 =>
  if r1 = 0 then
    some ((-1), T2)
  else
    bnd (m_X6_in a2 0 99 M00) fun r4 _ =>
    if r4 = 0 then
      some ((-2), T2)
    else
      bnd (m_X6_at 0 a1 M00) fun r6 _ =>
      gd (ib (r6 + 6) 2048) <| nm (T2 1 ((r6 + 6).toNatClampNeg)) fun v7 =>
      if v7 = 2 then
        some ((-4), T2)
      else
        bnd (m_X6_records T2) fun r9 T10 =>
        gd (ib (r6 + 5) 2048) <| nm (T10 1 ((r6 + 5).toNatClampNeg)) fun v11 =>
        gd (ib (r6 + 5) 2048) <| nm (wT T10 1 ((r6 + 5).toNatClampNeg) a2) fun T12 =>
        some (v11, T12)
def m_X6_boasts_66 (κ4 : Int32 → Int32 → Int32 → Tm → Option (Int32 × Tm)) (b1 : Int32) (b3 : Int32) (s0 : Int32) (s1 : Int32) (T : Tm) : Option (Int32 × Tm) := bnd (m_X6_flag s1 M00) fun r1 _ =>
  κ4 b1 (s0 + r1) (b3 + 1) T
def m_X6_boasts_65 (κ4 : Int32 → Int32 → Int32 → Tm → Option (Int32 × Tm)) (b1 : Int32) (b3 : Int32) (s0 : Int32) (T : Tm) : Option (Int32 × Tm) := m_X6_boasts_66 κ4 b1 b3 s0 0 T
def m_X6_boasts_61 (κ4 : Int32 → Int32 → Int32 → Tm → Option (Int32 × Tm)) (b1 : Int32) (b3 : Int32) (s0 : Int32) (T : Tm) : Option (Int32 × Tm) := m_X6_boasts_66 κ4 b1 b3 s0 1 T
def m_X6_boasts_4 : Nat → Int32 → Int32 → Int32 → Tm → Option (Int32 × Tm)
  | 0, _, _, _, _ => none
  | n + 1, b1, b2, b3, T => gd (ib 0 2048) <| nm (T 1 ((0 : Int32).toNatClampNeg)) fun v1 =>
  if v1 ≤ b3 then
    some (b2, T)
  else
    bnd (m_X6_at 0 b3 M00) fun r3 _ =>
    gd (ib (r3 + 5) 2048) <| nm (T 1 ((r3 + 5).toNatClampNeg)) fun v4 =>
    if v4 = (-5) then
      m_X6_boasts_65 (m_X6_boasts_4 n) b1 b3 b2 T
    else
      if b1 = 0 then
        m_X6_boasts_61 (m_X6_boasts_4 n) b1 b3 b2 T
      else
        gd (ib (r3 + 5) 2048) <| nm (T 1 ((r3 + 5).toNatClampNeg)) fun v7 =>
        gd (ib (r3 + 4) 2048) <| nm (T 1 ((r3 + 4).toNatClampNeg)) fun v8 =>
        if v7 ≤ v8 then
          m_X6_boasts_65 (m_X6_boasts_4 n) b1 b3 b2 T
        else
          m_X6_boasts_61 (m_X6_boasts_4 n) b1 b3 b2 T
def m_X6_boasts (a1 : Int32) (T : Tm) : Option (Int32 × Tm) := m_X6_boasts_4 fu a1 0 0 T
def m_X6_pairError_92 (T : Tm) : Option (Int32 × Tm) := some ((-4), T)
def m_X6_pairError_62 (b1 : Int32) (b2 : Int32) (s0 : Int32) (T : Tm) : Option (Int32 × Tm) := bnd (m_X6_at 0 b1 M00) fun r1 _ =>
  gd (ib r1 2048) <| nm (T 1 r1.toNatClampNeg) fun v2 =>
  bnd (m_X6_at 0 b2 M00) fun r3 _ =>
  gd (ib r3 2048) <| nm (T 1 r3.toNatClampNeg) fun v4 =>
  if v2 = v4 then
    m_X6_pairError_92 T
  else
    if s0 = 0 then
      m_X6_pairError_92 T
    else
      some (0, T)
def m_X6_pairError_61 (b1 : Int32) (b2 : Int32) (T : Tm) : Option (Int32 × Tm) := m_X6_pairError_62 b1 b2 0 T
def m_X6_pairError (a1 : Int32) (a2 : Int32) (a3 : Int32) (T : Tm) : Option (Int32 × Tm) := bnd (m_X6_isConker a1 T) fun r1 T2 =>
  if r1 = 0 then
    some ((-1), T2)
  else
    bnd (m_X6_isConker a2 T2) fun r4 T5 =>
    if r4 = 0 then
      some ((-1), T5)
    else
      if a3 = 0 then
        some ((-2), T5)
      else
        bnd (m_X6_at 0 a1 M00) fun r8 _ =>
        gd (ib (r8 + 6) 2048) <| nm (T5 1 ((r8 + 6).toNatClampNeg)) fun v9 =>
        if v9 = 0 then
          bnd (m_X6_at 0 a2 M00) fun r11 _ =>
          gd (ib (r11 + 6) 2048) <| nm (T5 1 ((r11 + 6).toNatClampNeg)) fun v12 =>
          if v12 = 0 then
            m_X6_pairError_62 a1 a2 1 T5
          else
            m_X6_pairError_61 a1 a2 T5
        else
          m_X6_pairError_61 a1 a2 T5
def m_X6_boutError (a1 : Int32) (a2 : Int32) (a3 : Int32) (T : Tm) : Option (Int32 × Tm) := bnd (m_X6_in a3 0 65535 M00) fun r1 _ =>
  bnd (m_X6_pairError a1 a2 r1 T) fun r2 T3 =>
  some (r2, T3)
def m_X6_less (a0 : Int32) (a1 : Int32) (M : Mm) : Option (Int32 × Mm) := if a1 ≤ a0 then
    some (a1, M)
  else
    some (a0, M)
def m_X6_goesOn (T : Tm) : Option (Int32 × Tm) := nm (T 0 5) fun v1 =>
  gd (!decide ((65536 : Int32) = 0)) <|
  nm (wT T 0 5 (((25173 * v1) + 13849) - ((25173 * v1) + 13849) / 65536 * 65536)) fun T2 =>
  some (0, T2)
def m_X6_smashes (a1 : Int32) (a2 : Int32) (T : Tm) : Option (Int32 × Tm) := gd (ib (a1 + 6) 2048) <| nm (wT T 1 ((a1 + 6).toNatClampNeg) 2) fun T1 =>
  gd (ib (a1 + 4) 2048) <| nm (wT T1 1 ((a1 + 4).toNatClampNeg) 0) fun T2 =>
  gd (ib (a1 + 5) 2048) <| nm (wT T2 1 ((a1 + 5).toNatClampNeg) (-5)) fun T3 =>
  gd (ib (a1 + 7) 2048) <| nm (wT T3 1 ((a1 + 7).toNatClampNeg) a2) fun T4 =>
  some (0, T4)
def m_X6_strikes_480 (b7 : Int32) (b8 : Int32) (b9 : Int32) (b10 : Int32) (s1 : Int32) (s2 : Int32) (T : Tm) : Option (Int32 × Tm) := gd (ib s1 2048) <| nm (wT T 1 s1.toNatClampNeg s2) fun T1 =>
  bnd (m_X6_flag b7 M00) fun r2 _ =>
  bnd (m_X6_flag b8 M00) fun r3 _ =>
  bnd (m_X6_flag b9 M00) fun r4 _ =>
  bnd (m_X6_flag b10 M00) fun r5 _ =>
  some ((((r2 + (2 * r3)) + (4 * r4)) + (8 * r5)), T1)
def m_X6_strikes_451 (b6 : Int32) (b7 : Int32) (b8 : Int32) (b9 : Int32) (b10 : Int32) (s1 : Int32) (s2 : Int32) (T : Tm) : Option (Int32 × Tm) := gd (ib s1 2048) <| nm (wT T 1 s1.toNatClampNeg s2) fun T1 =>
  if b10 = 0 then
    gd (ib (b6 + 6) 2048) <| nm (T1 1 ((b6 + 6).toNatClampNeg)) fun v3 =>
    m_X6_strikes_480 b7 b8 b9 b10 (b6 + 6) v3 T1
  else
    m_X6_strikes_480 b7 b8 b9 b10 (b6 + 6) 1 T1
def m_X6_strikes_421 (b5 : Int32) (b6 : Int32) (b7 : Int32) (b8 : Int32) (b9 : Int32) (s0 : Int32) (T : Tm) : Option (Int32 × Tm) := if b9 = 0 then
    gd (ib (b5 + 6) 2048) <| nm (T 1 ((b5 + 6).toNatClampNeg)) fun v2 =>
    m_X6_strikes_451 b6 b7 b8 b9 s0 (b5 + 6) v2 T
  else
    m_X6_strikes_451 b6 b7 b8 b9 s0 (b5 + 6) 1 T
def m_X6_strikes_420 (b5 : Int32) (b6 : Int32) (b7 : Int32) (b8 : Int32) (b9 : Int32) (T : Tm) : Option (Int32 × Tm) := m_X6_strikes_421 b5 b6 b7 b8 b9 0 T
def m_X6_strikes_395 (b5 : Int32) (b6 : Int32) (b7 : Int32) (b8 : Int32) (s0 : Int32) (T : Tm) : Option (Int32 × Tm) := if b8 = 0 then
    gd (ib (b6 + 3) 2048) <| nm (T 1 ((b6 + 3).toNatClampNeg)) fun v2 =>
    if v2 = 20 then
      m_X6_strikes_421 b5 b6 b7 b8 s0 1 T
    else
      m_X6_strikes_420 b5 b6 b7 b8 s0 T
  else
    m_X6_strikes_420 b5 b6 b7 b8 s0 T
def m_X6_strikes_394 (b5 : Int32) (b6 : Int32) (b7 : Int32) (b8 : Int32) (T : Tm) : Option (Int32 × Tm) := m_X6_strikes_395 b5 b6 b7 b8 0 T
def m_X6_strikes_371 (b5 : Int32) (b6 : Int32) (b7 : Int32) (b8 : Int32) (T : Tm) : Option (Int32 × Tm) := if b7 = 0 then
    gd (ib (b5 + 3) 2048) <| nm (T 1 ((b5 + 3).toNatClampNeg)) fun v2 =>
    if v2 = 20 then
      m_X6_strikes_395 b5 b6 b7 b8 1 T
    else
      m_X6_strikes_394 b5 b6 b7 b8 T
  else
    m_X6_strikes_394 b5 b6 b7 b8 T
def m_X6_strikes_368 (b5 : Int32) (b6 : Int32) (b7 : Int32) (b8 : Int32) (s1 : Int32) (s2 : Int32) (T : Tm) : Option (Int32 × Tm) := bnd (m_X6_smashes s1 s2 T) fun r1 T2 =>
  m_X6_strikes_371 b5 b6 b7 b8 T2
def m_X6_strikes_318 (b1 : Int32) (b2 : Int32) (b3 : Int32) (b5 : Int32) (b6 : Int32) (b7 : Int32) (b8 : Int32) (b9 : Int32) (s0 : Int32) (T : Tm) : Option (Int32 × Tm) := gd (ib (b9 + 4) 2048) <| nm (T 1 ((b9 + 4).toNatClampNeg)) fun v1 =>
  gd (ib (s0 + 4) 2048) <| nm (T 1 ((s0 + 4).toNatClampNeg)) fun v2 =>
  gd (ib (b9 + 4) 2048) <| nm (wT T 1 ((b9 + 4).toNatClampNeg) (v1 + (1 + v2))) fun T3 =>
  gd (ib (b1 + 3) 2048) <| nm (T3 1 ((b1 + 3).toNatClampNeg)) fun v4 =>
  gd (ib (b1 + 3) 2048) <| nm (wT T3 1 ((b1 + 3).toNatClampNeg) (v4 + 1)) fun T5 =>
  if b7 = 0 then
    m_X6_strikes_368 b5 b6 b7 b8 s0 b2 T5
  else
    m_X6_strikes_368 b5 b6 b7 b8 s0 b3 T5
def m_X6_strikes_304 (b1 : Int32) (b2 : Int32) (b3 : Int32) (b5 : Int32) (b6 : Int32) (b7 : Int32) (b8 : Int32) (s0 : Int32) (T : Tm) : Option (Int32 × Tm) := if b7 = 0 then
    m_X6_strikes_318 b1 b2 b3 b5 b6 b7 b8 s0 b6 T
  else
    m_X6_strikes_318 b1 b2 b3 b5 b6 b7 b8 s0 b5 T
def m_X6_strikes_292 (b1 : Int32) (b2 : Int32) (b3 : Int32) (b5 : Int32) (b6 : Int32) (b7 : Int32) (b8 : Int32) (T : Tm) : Option (Int32 × Tm) := if b7 = 0 then
    m_X6_strikes_304 b1 b2 b3 b5 b6 b7 b8 b5 T
  else
    m_X6_strikes_304 b1 b2 b3 b5 b6 b7 b8 b6 T
def m_X6_strikes_282 (b1 : Int32) (b2 : Int32) (b3 : Int32) (b5 : Int32) (b6 : Int32) (b7 : Int32) (b8 : Int32) (T : Tm) : Option (Int32 × Tm) := if b7 = 0 then
    if b8 = 0 then
      m_X6_strikes_371 b5 b6 b7 b8 T
    else
      m_X6_strikes_292 b1 b2 b3 b5 b6 b7 b8 T
  else
    m_X6_strikes_292 b1 b2 b3 b5 b6 b7 b8 T
def m_X6_strikes_221 (b1 : Int32) (b2 : Int32) (b3 : Int32) (b5 : Int32) (b6 : Int32) (b7 : Int32) (s0 : Int32) (T : Tm) : Option (Int32 × Tm) := if b7 = 0 then
    m_X6_strikes_282 b1 b2 b3 b5 b6 b7 s0 T
  else
    if s0 = 0 then
      m_X6_strikes_282 b1 b2 b3 b5 b6 b7 s0 T
    else
      gd (ib (b1 + 1) 2048) <| nm (T 1 ((b1 + 1).toNatClampNeg)) fun v3 =>
      gd (ib (b5 + 4) 2048) <| nm (T 1 ((b5 + 4).toNatClampNeg)) fun v4 =>
      gd (ib (b6 + 4) 2048) <| nm (T 1 ((b6 + 4).toNatClampNeg)) fun v5 =>
      gd (ib (b1 + 1) 2048) <| nm (wT T 1 ((b1 + 1).toNatClampNeg) (v3 + (v4 + v5))) fun T6 =>
      bnd (m_X6_smashes b5 (-5) T6) fun r7 T8 =>
      bnd (m_X6_smashes b6 (-5) T8) fun r9 T10 =>
      m_X6_strikes_371 b5 b6 b7 s0 T10
def m_X6_strikes_200 (b1 : Int32) (b2 : Int32) (b3 : Int32) (b5 : Int32) (b6 : Int32) (s0 : Int32) (T : Tm) : Option (Int32 × Tm) := gd (ib (b6 + 2) 2048) <| nm (T 1 ((b6 + 2).toNatClampNeg)) fun v1 =>
  if v1 = 100 then
    m_X6_strikes_221 b1 b2 b3 b5 b6 s0 1 T
  else
    m_X6_strikes_221 b1 b2 b3 b5 b6 s0 0 T
def m_X6_strikes_137 (b1 : Int32) (b2 : Int32) (b3 : Int32) (b5 : Int32) (b6 : Int32) (s1 : Int32) (s2 : Int32) (s3 : Int32) (T : Tm) : Option (Int32 × Tm) := bnd (m_X6_less (s2 + s3) 20 M00) fun r1 _ =>
  gd (ib s1 2048) <| nm (wT T 1 s1.toNatClampNeg r1) fun T2 =>
  gd (ib (b6 + 3) 2048) <| nm (T2 1 ((b6 + 3).toNatClampNeg)) fun v3 =>
  bnd (m_X6_less (v3 + 1) 20 M00) fun r4 _ =>
  gd (ib (b6 + 3) 2048) <| nm (wT T2 1 ((b6 + 3).toNatClampNeg) r4) fun T5 =>
  gd (ib (b1 + 2) 2048) <| nm (T5 1 ((b1 + 2).toNatClampNeg)) fun v6 =>
  gd (ib (b1 + 2) 2048) <| nm (wT T5 1 ((b1 + 2).toNatClampNeg) (v6 + 1)) fun T7 =>
  gd (ib (b5 + 2) 2048) <| nm (T7 1 ((b5 + 2).toNatClampNeg)) fun v8 =>
  if v8 = 100 then
    m_X6_strikes_200 b1 b2 b3 b5 b6 1 T7
  else
    m_X6_strikes_200 b1 b2 b3 b5 b6 0 T7
def m_X6_strikes (a1 : Int32) (a2 : Int32) (a3 : Int32) (a4 : Int32) (T : Tm) : Option (Int32 × Tm) := bnd (m_X6_at a1 a2 M00) fun r1 _ =>
  bnd (m_X6_at a1 a3 M00) fun r2 _ =>
  gd (ib (r2 + 2) 2048) <| nm (T 1 ((r2 + 2).toNatClampNeg)) fun v3 =>
  gd (ib (r1 + 1) 2048) <| nm (T 1 ((r1 + 1).toNatClampNeg)) fun v4 =>
  gd (ib (r2 + 1) 2048) <| nm (T 1 ((r2 + 1).toNatClampNeg)) fun v5 =>
  gd (!decide (v5 = 0)) <|
  bnd (m_X6_less (v3 + ((a4 * v4) / v5)) 100 M00) fun r6 _ =>
  gd (ib (r2 + 2) 2048) <| nm (wT T 1 ((r2 + 2).toNatClampNeg) r6) fun T7 =>
  gd (ib (r1 + 2) 2048) <| nm (T7 1 ((r1 + 2).toNatClampNeg)) fun v8 =>
  gd (ib (r2 + 1) 2048) <| nm (T7 1 ((r2 + 1).toNatClampNeg)) fun v9 =>
  gd (ib (r1 + 1) 2048) <| nm (T7 1 ((r1 + 1).toNatClampNeg)) fun v10 =>
  gd (!decide ((2 * v10) = 0)) <|
  bnd (m_X6_less (v8 + ((a4 * v9) / (2 * v10))) 100 M00) fun r11 _ =>
  gd (ib (r1 + 2) 2048) <| nm (wT T7 1 ((r1 + 2).toNatClampNeg) r11) fun T12 =>
  gd (ib (r1 + 3) 2048) <| nm (T12 1 ((r1 + 3).toNatClampNeg)) fun v13 =>
  if a4 ≤ 6 then
    m_X6_strikes_137 a1 a2 a3 r1 r2 (r1 + 3) v13 1 T12
  else
    m_X6_strikes_137 a1 a2 a3 r1 r2 (r1 + 3) v13 2 T12
def m_X6_fights_100 (b6 : Int32) (T : Tm) : Option (Int32 × Tm) := some (b6, T)
def m_X6_fights_18 : Nat → Int32 → Int32 → Int32 → Int32 → Int32 → Int32 → Tm → Option (Int32 × Tm)
  | 0, _, _, _, _, _, _, _ => none
  | n + 1, b1, b2, b3, b4, b5, b6, T => if 20 ≤ b6 then
    m_X6_fights_100 b6 T
  else
    bnd (m_X6_at b1 b2 M00) fun r2 _ =>
    gd (ib (r2 + 6) 2048) <| nm (T 1 ((r2 + 6).toNatClampNeg)) fun v3 =>
    if v3 = 0 then
      bnd (m_X6_at b1 b3 M00) fun r5 _ =>
      gd (ib (r5 + 6) 2048) <| nm (T 1 ((r5 + 6).toNatClampNeg)) fun v6 =>
      if v6 = 0 then
        bnd (m_X6_goesOn T) fun r8 T9 =>
        nm (T9 0 5) fun v10 =>
        gd (!decide ((7282 : Int32) = 0)) <|
        bnd (m_X6_strikes b1 b4 b5 (1 + (v10 / 7282)) T9) fun r11 T12 =>
        m_X6_fights_18 n b1 b2 b3 b5 b4 (b6 + 1) T12
      else
        m_X6_fights_100 b6 T
    else
      m_X6_fights_100 b6 T
def m_X6_fights (a1 : Int32) (a2 : Int32) (a3 : Int32) (T : Tm) : Option (Int32 × Tm) := bnd (m_X6_less a2 a3 M00) fun r1 _ =>
  m_X6_fights_18 fu a1 a2 a3 r1 ((a2 + a3) - r1) 0 T
def m_X6_bout (a1 : Int32) (a2 : Int32) (a3 : Int32) (T : Tm) : Option (Int32 × Tm) := bnd (m_X6_boutError a1 a2 a3 T) fun r1 T2 =>
  if r1 = 0 then
    bnd (m_X6_records T2) fun r4 T5 =>
    nm (wT T5 0 5 a3) fun T6 =>
    bnd (m_X6_fights 0 a1 a2 T6) fun r7 T8 =>
    some (r7, T8)
  else
    some (r1, T2)
def m_X6_clearText (T : Tm) : Option (Int32 × Tm) := nm (T 0 4) fun v1 =>
  nm (wT T 0 4 0) fun T2 =>
  some (v1, T2)
def m_X6_heirOf_37 (κ4 : Int32 → Int32 → Int32 → Tm → Option (Int32 × Tm)) (b1 : Int32) (b3 : Int32) (s0 : Int32) (s1 : Int32) (T : Tm) : Option (Int32 × Tm) := bnd (m_X6_flag s1 M00) fun r1 _ =>
  κ4 b1 (s0 + r1) (b3 + 1) T
def m_X6_heirOf_4 : Nat → Int32 → Int32 → Int32 → Tm → Option (Int32 × Tm)
  | 0, _, _, _, _ => none
  | n + 1, b1, b2, b3, T => gd (ib 0 2048) <| nm (T 1 ((0 : Int32).toNatClampNeg)) fun v1 =>
  if v1 ≤ b3 then
    some (b2, T)
  else
    bnd (m_X6_at 0 b3 M00) fun r3 _ =>
    gd (ib (r3 + 7) 2048) <| nm (T 1 ((r3 + 7).toNatClampNeg)) fun v4 =>
    if v4 = b1 then
      m_X6_heirOf_37 (m_X6_heirOf_4 n) b1 b3 b2 1 T
    else
      m_X6_heirOf_37 (m_X6_heirOf_4 n) b1 b3 b2 0 T
def m_X6_heirOf (a1 : Int32) (T : Tm) : Option (Int32 × Tm) := m_X6_heirOf_4 fu a1 0 0 T
def m_X6_conker (a1 : Int32) (a2 : Int32) (T : Tm) : Option (Int32 × Tm) := bnd (m_X6_isConker a1 T) fun r1 T2 =>
  if r1 = 0 then
    some ((-1), T2)
  else
    bnd (m_X6_in a2 0 7 M00) fun r4 _ =>
    if r4 = 0 then
      if a2 = 8 then
        bnd (m_X6_heirOf a1 T2) fun r7 T8 =>
        some (r7, T8)
      else
        some ((-2), T2)
    else
      bnd (m_X6_at 0 a1 M00) fun r9 _ =>
      gd (ib (r9 + a2) 2048) <| nm (T2 1 ((r9 + a2).toNatClampNeg)) fun v10 =>
      some (v10, T2)
def m_X6_conkers_61 (κ5 : Int32 → Int32 → Int32 → Int32 → Tm → Option (Int32 × Tm)) (b1 : Int32) (b2 : Int32) (b4 : Int32) (s0 : Int32) (s1 : Int32) (T : Tm) : Option (Int32 × Tm) := bnd (m_X6_flag s1 M00) fun r1 _ =>
  κ5 b1 b2 (s0 + r1) (b4 + 1) T
def m_X6_conkers_60 (κ5 : Int32 → Int32 → Int32 → Int32 → Tm → Option (Int32 × Tm)) (b1 : Int32) (b2 : Int32) (b4 : Int32) (s0 : Int32) (T : Tm) : Option (Int32 × Tm) := m_X6_conkers_61 κ5 b1 b2 b4 s0 0 T
def m_X6_conkers_56 (κ5 : Int32 → Int32 → Int32 → Int32 → Tm → Option (Int32 × Tm)) (b1 : Int32) (b2 : Int32) (b4 : Int32) (s0 : Int32) (T : Tm) : Option (Int32 × Tm) := m_X6_conkers_61 κ5 b1 b2 b4 s0 1 T
def m_X6_conkers_5 : Nat → Int32 → Int32 → Int32 → Int32 → Tm → Option (Int32 × Tm)
  | 0, _, _, _, _, _ => none
  | n + 1, b1, b2, b3, b4, T => gd (ib 0 2048) <| nm (T 1 ((0 : Int32).toNatClampNeg)) fun v1 =>
  if v1 ≤ b4 then
    some (b3, T)
  else
    bnd (m_X6_at 0 b4 M00) fun r3 _ =>
    gd (ib (r3 + 6) 2048) <| nm (T 1 ((r3 + 6).toNatClampNeg)) fun v4 =>
    if v4 = b2 then
      if b1 = (-5) then
        m_X6_conkers_56 (m_X6_conkers_5 n) b1 b2 b4 b3 T
      else
        gd (ib r3 2048) <| nm (T 1 r3.toNatClampNeg) fun v7 =>
        if v7 = b1 then
          m_X6_conkers_56 (m_X6_conkers_5 n) b1 b2 b4 b3 T
        else
          m_X6_conkers_60 (m_X6_conkers_5 n) b1 b2 b4 b3 T
    else
      m_X6_conkers_60 (m_X6_conkers_5 n) b1 b2 b4 b3 T
def m_X6_conkers (a1 : Int32) (a2 : Int32) (T : Tm) : Option (Int32 × Tm) := m_X6_conkers_5 fu a1 a2 0 0 T
def m_X6_victories_52 (κ4 : Int32 → Int32 → Int32 → Tm → Option (Int32 × Tm)) (b1 : Int32) (b3 : Int32) (s0 : Int32) (s1 : Int32) (T : Tm) : Option (Int32 × Tm) := κ4 b1 (s0 + s1) (b3 + 1) T
def m_X6_victories_39 (κ4 : Int32 → Int32 → Int32 → Tm → Option (Int32 × Tm)) (b1 : Int32) (b3 : Int32) (b4 : Int32) (s0 : Int32) (T : Tm) : Option (Int32 × Tm) := gd (ib (b4 + 4) 2048) <| nm (T 1 ((b4 + 4).toNatClampNeg)) fun v1 =>
  m_X6_victories_52 κ4 b1 b3 s0 v1 T
def m_X6_victories_4 : Nat → Int32 → Int32 → Int32 → Tm → Option (Int32 × Tm)
  | 0, _, _, _, _ => none
  | n + 1, b1, b2, b3, T => gd (ib 0 2048) <| nm (T 1 ((0 : Int32).toNatClampNeg)) fun v1 =>
  if v1 ≤ b3 then
    some (b2, T)
  else
    bnd (m_X6_at 0 b3 M00) fun r3 _ =>
    if b1 = (-5) then
      m_X6_victories_39 (m_X6_victories_4 n) b1 b3 r3 b2 T
    else
      gd (ib r3 2048) <| nm (T 1 r3.toNatClampNeg) fun v5 =>
      if v5 = b1 then
        m_X6_victories_39 (m_X6_victories_4 n) b1 b3 r3 b2 T
      else
        m_X6_victories_52 (m_X6_victories_4 n) b1 b3 b2 0 T
def m_X6_victories (a1 : Int32) (T : Tm) : Option (Int32 × Tm) := m_X6_victories_4 fu a1 0 0 T
def m_X6_count_111 (s1 : Int32) (T : Tm) : Option (Int32 × Tm) := bnd (m_X6_boasts s1 T) fun r1 T2 =>
  some (r1, T2)
def m_X6_count_99 (b1 : Int32) (T : Tm) : Option (Int32 × Tm) := if b1 = 9 then
    m_X6_count_111 1 T
  else
    m_X6_count_111 0 T
def m_X6_count_88 (b1 : Int32) (T : Tm) : Option (Int32 × Tm) := gd (ib ((1 + b1) - 5) 2048) <| nm (T 1 (((1 + b1) - 5).toNatClampNeg)) fun v1 =>
  some (v1, T)
def m_X6_count_71 (b1 : Int32) (T : Tm) : Option (Int32 × Tm) := bnd (m_X6_conkers (-5) (b1 - 1) T) fun r1 T2 =>
  some (r1, T2)
def m_X6_count (a1 : Int32) (T : Tm) : Option (Int32 × Tm) := if a1 = 0 then
    gd (ib 0 2048) <| nm (T 1 ((0 : Int32).toNatClampNeg)) fun v2 =>
    some (v2, T)
  else if a1 = 1 then
    m_X6_count_71 a1 T
  else if a1 = 2 then
    m_X6_count_71 a1 T
  else if a1 = 3 then
    m_X6_count_71 a1 T
  else if a1 = 4 then
    bnd (m_X6_victories (-5) T) fun r7 T8 =>
    some (r7, T8)
  else if a1 = 5 then
    m_X6_count_88 a1 T
  else if a1 = 6 then
    m_X6_count_88 a1 T
  else if a1 = 7 then
    m_X6_count_88 a1 T
  else if a1 = 8 then
    m_X6_count_99 a1 T
  else if a1 = 9 then
    m_X6_count_99 a1 T
  else if a1 = 10 then
    nm (T 0 1) fun v15 =>
    some (v15, T)
  else if a1 = 11 then
    nm (T 0 4) fun v17 =>
    some (v17, T)
  else 
    some ((-2), T)
def m_X6_spare (a1 : Int32) (T : Tm) : Option (Int32 × Tm) := bnd (m_X6_at 0 a1 M00) fun r1 _ =>
  gd (ib r1 2048) <| nm (T 1 r1.toNatClampNeg) fun v2 =>
  some ((4 + (2 * v2)), T)
def m_X6_mends (a1 : Int32) (T : Tm) : Option (Int32 × Tm) := bnd (m_X6_at 0 a1 M00) fun r1 _ =>
  gd (ib (r1 + 6) 2048) <| nm (wT T 1 ((r1 + 6).toNatClampNeg) 0) fun T2 =>
  bnd (m_X6_at 0 a1 M00) fun r3 _ =>
  gd (ib (r3 + 3) 2048) <| nm (wT T2 1 ((r3 + 3).toNatClampNeg) 0) fun T4 =>
  bnd (m_X6_spare a1 T4) fun r5 T6 =>
  gd (ib r5 2048) <| nm (T6 1 r5.toNatClampNeg) fun v7 =>
  gd (ib r5 2048) <| nm (wT T6 1 r5.toNatClampNeg (v7 - 1)) fun T8 =>
  bnd (m_X6_spare a1 T8) fun r9 T10 =>
  gd (ib r9 2048) <| nm (T10 1 r9.toNatClampNeg) fun v11 =>
  some (v11, T10)
def m_X6_stamps (a1 : Int32) (T : Tm) : Option (Int32 × Tm) := bnd (m_X6_at 0 a1 M00) fun r1 _ =>
  gd (ib (r1 + 4) 2048) <| nm (T 1 ((r1 + 4).toNatClampNeg)) fun v2 =>
  gd (ib 1 2048) <| nm (T 1 ((1 : Int32).toNatClampNeg)) fun v3 =>
  gd (ib 1 2048) <| nm (wT T 1 ((1 : Int32).toNatClampNeg) (v3 + v2)) fun T4 =>
  bnd (m_X6_at 0 a1 M00) fun r5 _ =>
  bnd (m_X6_smashes r5 (-5) T4) fun r6 T7 =>
  some (v2, T7)
def m_X6_does (T : Tm) : Option (Int32 × Tm) := nm (T 0 9) fun v1 =>
  if v1 = 116 then
    nm (T 0 10) fun v3 =>
    bnd (m_X6_mends v3 T) fun r4 T5 =>
    some (r4, T5)
  else
    nm (T 0 9) fun v6 =>
    if v6 = 115 then
      nm (T 0 10) fun v8 =>
      bnd (m_X6_stamps v8 T) fun r9 T10 =>
      some (r9, T10)
    else
      nm (T 0 10) fun v11 =>
      nm (T 0 11) fun v12 =>
      nm (T 0 12) fun v13 =>
      bnd (m_X6_strikes 0 v11 v12 v13 T) fun r14 T15 =>
      some (r14, T15)
def m_X6_isPlayer (a0 : Int32) (M : Mm) : Option (Int32 × Mm) := bnd (m_X6_in a0 0 5 M00) fun r1 _ =>
  gd (nb .boolean r1) (some (r1, M))
def m_X6_doubt_85 (b3 : Int32) (s0 : Int32) (T : Tm) : Option (Int32 × Tm) := gd (ib ((4 + (2 * s0)) + 1) 2048) <| nm (T 1 (((4 + (2 * s0)) + 1).toNatClampNeg)) fun v1 =>
  gd (ib ((4 + (2 * s0)) + 1) 2048) <| nm (wT T 1 (((4 + (2 * s0)) + 1).toNatClampNeg) (v1 + 1)) fun T2 =>
  gd (ib (b3 + 5) 2048) <| nm (wT T2 1 ((b3 + 5).toNatClampNeg) (-5)) fun T3 =>
  some (s0, T3)
def m_X6_doubt (a1 : Int32) (a2 : Int32) (T : Tm) : Option (Int32 × Tm) := bnd (m_X6_isPlayer a1 M00) fun r1 _ =>
  if r1 = 0 then
    some ((-1), T)
  else
    bnd (m_X6_isConker a2 T) fun r3 T4 =>
    if r3 = 0 then
      some ((-1), T4)
    else
      bnd (m_X6_at 0 a2 M00) fun r6 _ =>
      gd (ib r6 2048) <| nm (T4 1 r6.toNatClampNeg) fun v7 =>
      if v7 = a1 then
        some ((-2), T4)
      else
        gd (ib (r6 + 5) 2048) <| nm (T4 1 ((r6 + 5).toNatClampNeg)) fun v9 =>
        if v9 = (-5) then
          some ((-4), T4)
        else
          bnd (m_X6_records T4) fun r11 T12 =>
          gd (ib (r6 + 5) 2048) <| nm (T12 1 ((r6 + 5).toNatClampNeg)) fun v13 =>
          gd (ib (r6 + 4) 2048) <| nm (T12 1 ((r6 + 4).toNatClampNeg)) fun v14 =>
          if v13 ≤ v14 then
            m_X6_doubt_85 r6 a1 T12
          else
            gd (ib r6 2048) <| nm (T12 1 r6.toNatClampNeg) fun v16 =>
            m_X6_doubt_85 r6 v16 T12
def m_X6_isHere (a1 : Int32) (a2 : Int32) (T : Tm) : Option (Int32 × Tm) := nm (T 0 8) fun v1 =>
  nm (T 0 4) fun v2 =>
  if v2 ≤ v1 then
    some (0, T)
  else
    nm (T 0 8) fun v4 =>
    gd (ib v4 60) <| nm (T 2 v4.toNatClampNeg) fun v5 =>
    bnd (m_X6_in v5 a1 a2 M00) fun r6 _ =>
    if r6 = 0 then
      some (0, T)
    else
      some (1, T)
def m_X6_takes (a1 : Int32) (T : Tm) : Option (Int32 × Tm) := bnd (m_X6_isHere a1 a1 T) fun r1 T2 =>
  nm (T2 0 8) fun v3 =>
  bnd (m_X6_flag r1 M00) fun r4 _ =>
  nm (wT T2 0 8 (v3 + r4)) fun T5 =>
  gd (nb .boolean r1) (some (r1, T5))
def m_X6_number_100 (b1 : Int32) (T : Tm) : Option (Int32 × Tm) := some (b1, T)
def m_X6_number_45 (b1 : Int32) (s1 : Int32) (s2 : Int32) (T : Tm) : Option (Int32 × Tm) := bnd (m_X6_flag s2 M00) fun r1 _ =>
  nm (wT T 0 8 (s1 + r1)) fun T2 =>
  bnd (m_X6_in b1 1 2 M00) fun r3 _ =>
  if r3 = 0 then
    m_X6_number_100 b1 T2
  else
    bnd (m_X6_isHere 48 57 T2) fun r5 T6 =>
    if r5 = 0 then
      m_X6_number_100 b1 T6
    else
      nm (T6 0 8) fun v8 =>
      gd (ib v8 60) <| nm (T6 2 v8.toNatClampNeg) fun v9 =>
      nm (T6 0 8) fun v10 =>
      nm (wT T6 0 8 (v10 + 1)) fun T11 =>
      m_X6_number_100 (((10 * b1) + v9) - 48) T11
def m_X6_number_28 (s0 : Int32) (T : Tm) : Option (Int32 × Tm) := nm (T 0 8) fun v1 =>
  if s0 = (-5) then
    m_X6_number_45 s0 v1 0 T
  else
    m_X6_number_45 s0 v1 1 T
def m_X6_number (T : Tm) : Option (Int32 × Tm) := bnd (m_X6_isHere 48 57 T) fun r1 T2 =>
  if r1 = 0 then
    m_X6_number_28 (-5) T2
  else
    nm (T2 0 8) fun v4 =>
    gd (ib v4 60) <| nm (T2 2 v4.toNatClampNeg) fun v5 =>
    m_X6_number_28 (v5 - 48) T2
def m_X6_readsOrder_166 (s1 : Int32) (s2 : Int32) (T : Tm) : Option (Int32 × Tm) := bnd (m_X6_flag s2 M00) fun r1 _ =>
  nm (wT T 0 8 (s1 + r1)) fun T2 =>
  nm (T2 0 12) fun v3 =>
  if v3 = (-5) then
    some (0, T2)
  else
    some (1, T2)
def m_X6_readsOrder_144 (s1 : Int32) (T : Tm) : Option (Int32 × Tm) := nm (wT T 0 12 s1) fun T1 =>
  nm (T1 0 8) fun v2 =>
  nm (T1 0 12) fun v3 =>
  if v3 = (-5) then
    m_X6_readsOrder_166 v2 0 T1
  else
    m_X6_readsOrder_166 v2 1 T1
def m_X6_readsOrder_142 (T : Tm) : Option (Int32 × Tm) := m_X6_readsOrder_144 (-5) T
def m_X6_readsOrder_94 (s1 : Int32) (T : Tm) : Option (Int32 × Tm) := nm (wT T 0 11 s1) fun T1 =>
  nm (T1 0 11) fun v2 =>
  if v2 = (-5) then
    m_X6_readsOrder_142 T1
  else
    bnd (m_X6_takes 58 T1) fun r4 T5 =>
    if r4 = 0 then
      m_X6_readsOrder_142 T5
    else
      bnd (m_X6_isHere 49 57 T5) fun r7 T8 =>
      if r7 = 0 then
        m_X6_readsOrder_142 T8
      else
        nm (T8 0 8) fun v10 =>
        gd (ib v10 60) <| nm (T8 2 v10.toNatClampNeg) fun v11 =>
        m_X6_readsOrder_144 (v11 - 48) T8
def m_X6_readsOrder_60 (T : Tm) : Option (Int32 × Tm) := nm (T 0 10) fun v1 =>
  if v1 = (-5) then
    some (0, T)
  else
    some (1, T)
def m_X6_readsOrder_31 (s1 : Int32) (T : Tm) : Option (Int32 × Tm) := nm (wT T 0 9 s1) fun T1 =>
  bnd (m_X6_number T1) fun r2 T3 =>
  nm (wT T3 0 10 r2) fun T4 =>
  nm (T4 0 9) fun v5 =>
  if v5 = 120 then
    nm (T4 0 10) fun v7 =>
    if v7 = (-5) then
      m_X6_readsOrder_60 T4
    else
      bnd (m_X6_takes 120 T4) fun r9 T10 =>
      if r9 = 0 then
        m_X6_readsOrder_94 (-5) T10
      else
        bnd (m_X6_number T10) fun r12 T13 =>
        m_X6_readsOrder_94 r12 T13
  else
    m_X6_readsOrder_60 T4
def m_X6_readsOrder (T : Tm) : Option (Int32 × Tm) := bnd (m_X6_takes 116 T) fun r1 T2 =>
  if r1 = 0 then
    bnd (m_X6_takes 115 T2) fun r4 T5 =>
    if r4 = 0 then
      m_X6_readsOrder_31 120 T5
    else
      m_X6_readsOrder_31 115 T5
  else
    m_X6_readsOrder_31 116 T2
def m_X6_fault_7 : Nat → Int32 → Tm → Option (Int32 × Tm)
  | 0, _, _ => none
  | n + 1, b1, T => if b1 = 0 then
    nm (T 0 8) fun v2 =>
    nm (T 0 4) fun v3 =>
    if v2 = v3 then
      some ((-5), T)
    else
      nm (T 0 8) fun v5 =>
      some (v5, T)
  else
    bnd (m_X6_readsOrder T) fun r6 T7 =>
    if r6 = 0 then
      nm (T7 0 8) fun v9 =>
      some (v9, T7)
    else
      bnd (m_X6_takes 44 T7) fun r10 T11 =>
      m_X6_fault_7 n r10 T11
def m_X6_fault (T : Tm) : Option (Int32 × Tm) := nm (wT T 0 8 0) fun T1 =>
  m_X6_fault_7 fu 1 T1
def m_X6_give (a1 : Int32) (a2 : Int32) (T : Tm) : Option (Int32 × Tm) := bnd (m_X6_isPlayer a1 M00) fun r1 _ =>
  if r1 = 0 then
    some ((-1), T)
  else
    bnd (m_X6_in a2 1 9 M00) fun r3 _ =>
    if r3 = 0 then
      some ((-2), T)
    else
      gd (ib (4 + (2 * a1)) 2048) <| nm (T 1 ((4 + (2 * a1)).toNatClampNeg)) fun v5 =>
      if (v5 + a2) ≤ 20 then
        bnd (m_X6_records T) fun r7 T8 =>
        gd (ib (4 + (2 * a1)) 2048) <| nm (T8 1 ((4 + (2 * a1)).toNatClampNeg)) fun v9 =>
        gd (ib (4 + (2 * a1)) 2048) <| nm (wT T8 1 ((4 + (2 * a1)).toNatClampNeg) (v9 + a2)) fun T10 =>
        gd (ib (4 + (2 * a1)) 2048) <| nm (T10 1 ((4 + (2 * a1)).toNatClampNeg)) fun v11 =>
        some (v11, T10)
      else
        some ((-3), T)
def m_X6_strikeError (a1 : Int32) (a2 : Int32) (a3 : Int32) (T : Tm) : Option (Int32 × Tm) := bnd (m_X6_in a3 1 9 M00) fun r1 _ =>
  bnd (m_X6_pairError a1 a2 r1 T) fun r2 T3 =>
  some (r2, T3)
def m_X6_ifStruck (a1 : Int32) (a2 : Int32) (a3 : Int32) (T : Tm) : Option (Int32 × Tm) := bnd (m_X6_strikeError a1 a2 a3 T) fun r1 T2 =>
  if r1 = 0 then
    bnd (m_X6_copies 0 7 T2) fun r4 T5 =>
    bnd (m_X6_strikes 1792 a1 a2 a3 T5) fun r6 T7 =>
    some (r6, T7)
  else
    some (r1, T2)
def m_X6_isInLine_39 (κ17 : Int32 → Int32 → Int32 → Tm → Option (Int32 × Tm)) (b1 : Int32) (b4 : Int32) (s0 : Int32) (T : Tm) : Option (Int32 × Tm) := bnd (m_X6_at 0 b4 M00) fun r1 _ =>
  gd (ib (r1 + 7) 2048) <| nm (T 1 ((r1 + 7).toNatClampNeg)) fun v2 =>
  κ17 b1 s0 v2 T
def m_X6_isInLine_34 (κ17 : Int32 → Int32 → Int32 → Tm → Option (Int32 × Tm)) (b1 : Int32) (b4 : Int32) (T : Tm) : Option (Int32 × Tm) := m_X6_isInLine_39 κ17 b1 b4 1 T
def m_X6_isInLine_17 : Nat → Int32 → Int32 → Int32 → Tm → Option (Int32 × Tm)
  | 0, _, _, _, _ => none
  | n + 1, b1, b3, b4, T => if b4 = (-5) then
    gd (nb .boolean b3) (some (b3, T))
  else
    if b3 = 0 then
      if b4 = b1 then
        m_X6_isInLine_34 (m_X6_isInLine_17 n) b1 b4 T
      else
        m_X6_isInLine_39 (m_X6_isInLine_17 n) b1 b4 0 T
    else
      m_X6_isInLine_34 (m_X6_isInLine_17 n) b1 b4 T
def m_X6_isInLine (a1 : Int32) (a2 : Int32) (T : Tm) : Option (Int32 × Tm) := bnd (m_X6_at 0 a2 M00) fun r1 _ =>
  gd (ib (r1 + 7) 2048) <| nm (T 1 ((r1 + 7).toNatClampNeg)) fun v2 =>
  m_X6_isInLine_17 fu a1 0 v2 T
def m_X6_leastSwing_17 : Nat → Int32 → Int32 → Int32 → Tm → Option (Int32 × Tm)
  | 0, _, _, _, _ => none
  | n + 1, b1, b2, b4, T => if 9 < b4 then
    some ((-5), T)
  else
    bnd (m_X6_copies 0 7 T) fun r2 T3 =>
    bnd (m_X6_strikes 1792 b1 b2 b4 T3) fun r4 T5 =>
    gd (!decide ((4 : Int32) = 0)) <|
    if (r4 - r4 / 4 * 4) = 2 then
      some (b4, T5)
    else
      m_X6_leastSwing_17 n b1 b2 (b4 + 1) T5
def m_X6_leastSwing (a1 : Int32) (a2 : Int32) (T : Tm) : Option (Int32 × Tm) := bnd (m_X6_strikeError a1 a2 1 T) fun r1 T2 =>
  if r1 = 0 then
    m_X6_leastSwing_17 fu a1 a2 1 T2
  else
    some (r1, T2)
def m_X6_line_14 : Nat → Int32 → Int32 → Int32 → Tm → Option (Int32 × Tm)
  | 0, _, _, _, _ => none
  | n + 1, b1, b2, b3, T => gd (ib 0 2048) <| nm (T 1 ((0 : Int32).toNatClampNeg)) fun v1 =>
  if v1 ≤ b3 then
    some (b2, T)
  else
    bnd (m_X6_isInLine b1 b3 T) fun r3 T4 =>
    bnd (m_X6_flag r3 M00) fun r5 _ =>
    m_X6_line_14 n b1 (b2 + r5) (b3 + 1) T4
def m_X6_line (a1 : Int32) (T : Tm) : Option (Int32 × Tm) := bnd (m_X6_isConker a1 T) fun r1 T2 =>
  if r1 = 0 then
    some ((-1), T2)
  else
    m_X6_line_14 fu a1 0 0 T2
def m_X6_lines_102 (κ4 : Int32 → Int32 → Tm → Option (Int32 × Tm)) (b1 : Int32) (b2 : Int32) (T : Tm) : Option (Int32 × Tm) := κ4 b1 (b2 + 1) T
def m_X6_lines_92 (κ4 : Int32 → Int32 → Tm → Option (Int32 × Tm)) (b1 : Int32) (b2 : Int32) (b3 : Int32) (T : Tm) : Option (Int32 × Tm) := gd (ib b3 6) <| nm (wT T 3 b3.toNatClampNeg b2) fun T1 =>
  m_X6_lines_102 κ4 (b1 + 1) b2 T1
def m_X6_lines_34 (κ4 : Int32 → Int32 → Tm → Option (Int32 × Tm)) : Nat → Int32 → Int32 → Int32 → Tm → Option (Int32 × Tm)
  | 0, _, _, _, _ => none
  | n + 1, b1, b2, b3, T => if b3 ≤ 0 then
    m_X6_lines_92 κ4 b1 b2 b3 T
  else
    gd (ib (b3 - 1) 6) <| nm (T 3 ((b3 - 1).toNatClampNeg)) fun v2 =>
    gd (ib ((4 + (2 * v2)) + 1) 2048) <| nm (T 1 (((4 + (2 * v2)) + 1).toNatClampNeg)) fun v3 =>
    gd (ib ((4 + (2 * b2)) + 1) 2048) <| nm (T 1 (((4 + (2 * b2)) + 1).toNatClampNeg)) fun v4 =>
    if v3 ≤ v4 then
      m_X6_lines_92 κ4 b1 b2 b3 T
    else
      gd (ib (b3 - 1) 6) <| nm (T 3 ((b3 - 1).toNatClampNeg)) fun v6 =>
      gd (ib b3 6) <| nm (wT T 3 b3.toNatClampNeg v6) fun T7 =>
      m_X6_lines_34 κ4 n b1 b2 (b3 + (-1)) T7
def m_X6_lines_4 : Nat → Int32 → Int32 → Tm → Option (Int32 × Tm)
  | 0, _, _, _ => none
  | n + 1, b1, b2, T => if 6 ≤ b2 then
    some (b1, T)
  else
    bnd (m_X6_best b2 T) fun r2 T3 =>
    gd (ib b2 6) <| nm (wT T3 4 b2.toNatClampNeg r2) fun T4 =>
    gd (ib b2 6) <| nm (T4 4 b2.toNatClampNeg) fun v5 =>
    if v5 = (-5) then
      m_X6_lines_102 (m_X6_lines_4 n) b1 b2 T4
    else
      m_X6_lines_34 (m_X6_lines_4 n) fu b1 b2 b1 T4
def m_X6_lines (T : Tm) : Option (Int32 × Tm) := m_X6_lines_4 fu 0 0 T
def m_X6_mendError_42 (T : Tm) : Option (Int32 × Tm) := some ((-4), T)
def m_X6_mendError (a1 : Int32) (T : Tm) : Option (Int32 × Tm) := bnd (m_X6_isConker a1 T) fun r1 T2 =>
  if r1 = 0 then
    some ((-1), T2)
  else
    bnd (m_X6_at 0 a1 M00) fun r4 _ =>
    gd (ib (r4 + 6) 2048) <| nm (T2 1 ((r4 + 6).toNatClampNeg)) fun v5 =>
    if v5 = 1 then
      bnd (m_X6_spare a1 T2) fun r7 T8 =>
      gd (ib r7 2048) <| nm (T8 1 r7.toNatClampNeg) fun v9 =>
      if v9 = 0 then
        m_X6_mendError_42 T8
      else
        some (0, T8)
    else
      m_X6_mendError_42 T2
def m_X6_mend (a1 : Int32) (T : Tm) : Option (Int32 × Tm) := bnd (m_X6_mendError a1 T) fun r1 T2 =>
  if r1 = 0 then
    bnd (m_X6_records T2) fun r4 T5 =>
    bnd (m_X6_mends a1 T5) fun r6 T7 =>
    some (r6, T7)
  else
    some (r1, T2)
def m_X6_stampError (a1 : Int32) (T : Tm) : Option (Int32 × Tm) := bnd (m_X6_isConker a1 T) fun r1 T2 =>
  if r1 = 0 then
    some ((-1), T2)
  else
    bnd (m_X6_at 0 a1 M00) fun r4 _ =>
    gd (ib (r4 + 6) 2048) <| nm (T2 1 ((r4 + 6).toNatClampNeg)) fun v5 =>
    if v5 = 1 then
      some (0, T2)
    else
      some ((-4), T2)
def m_X6_orderError (T : Tm) : Option (Int32 × Tm) := nm (T 0 9) fun v1 =>
  if v1 = 116 then
    nm (T 0 10) fun v3 =>
    bnd (m_X6_mendError v3 T) fun r4 T5 =>
    some (r4, T5)
  else
    nm (T 0 9) fun v6 =>
    if v6 = 115 then
      nm (T 0 10) fun v8 =>
      bnd (m_X6_stampError v8 T) fun r9 T10 =>
      some (r9, T10)
    else
      nm (T 0 10) fun v11 =>
      nm (T 0 11) fun v12 =>
      nm (T 0 12) fun v13 =>
      bnd (m_X6_strikeError v11 v12 v13 T) fun r14 T15 =>
      some (r14, T15)
def m_X6_player_65 (b1 : Int32) (b2 : Int32) (T : Tm) : Option (Int32 × Tm) := bnd (m_X6_conkers b1 (b2 - 2) T) fun r1 T2 =>
  some (r1, T2)
def m_X6_player_52 (b1 : Int32) (b2 : Int32) (T : Tm) : Option (Int32 × Tm) := gd (ib ((4 + (2 * b1)) + b2) 2048) <| nm (T 1 (((4 + (2 * b1)) + b2).toNatClampNeg)) fun v1 =>
  some (v1, T)
def m_X6_player (a1 : Int32) (a2 : Int32) (T : Tm) : Option (Int32 × Tm) := bnd (m_X6_isPlayer a1 M00) fun r1 _ =>
  if r1 = 0 then
    some ((-1), T)
  else
    if a2 = 0 then
      m_X6_player_52 a1 a2 T
    else if a2 = 1 then
      m_X6_player_52 a1 a2 T
    else if a2 = 2 then
      m_X6_player_65 a1 a2 T
    else if a2 = 3 then
      m_X6_player_65 a1 a2 T
    else if a2 = 4 then
      m_X6_player_65 a1 a2 T
    else if a2 = 5 then
      bnd (m_X6_victories a1 T) fun r9 T10 =>
      some (r9, T10)
    else if a2 = 6 then
      bnd (m_X6_best a1 T) fun r12 T13 =>
      some (r12, T13)
    else 
      some ((-2), T)
def m_X6_ranked_47 (κ9 : Int32 → Int32 → Tm → Option (Int32 × Tm)) (b1 : Int32) (b2 : Int32) (T : Tm) : Option (Int32 × Tm) := κ9 b1 (b2 + 1) T
def m_X6_ranked_9 : Nat → Int32 → Int32 → Tm → Option (Int32 × Tm)
  | 0, _, _, _ => none
  | n + 1, b1, b2, T => gd (ib 0 2048) <| nm (T 1 ((0 : Int32).toNatClampNeg)) fun v1 =>
  if v1 ≤ b2 then
    some ((-5), T)
  else
    bnd (m_X6_at 0 b2 M00) fun r3 _ =>
    gd (ib (r3 + 6) 2048) <| nm (T 1 ((r3 + 6).toNatClampNeg)) fun v4 =>
    if v4 = 2 then
      m_X6_ranked_47 (m_X6_ranked_9 n) b1 b2 T
    else
      bnd (m_X6_ahead b2 T) fun r6 T7 =>
      if r6 = b1 then
        some (b2, T7)
      else
        m_X6_ranked_47 (m_X6_ranked_9 n) b1 b2 T7
def m_X6_ranked (a1 : Int32) (T : Tm) : Option (Int32 × Tm) := if 0 ≤ a1 then
    m_X6_ranked_9 fu a1 0 T
  else
    some ((-2), T)
def m_X6_restore (T : Tm) : Option (Int32 × Tm) := nm (T 0 2) fun v1 =>
  if v1 = 0 then
    some ((-4), T)
  else
    bnd (m_X6_records T) fun r3 T4 =>
    bnd (m_X6_copies 6 0 T4) fun r5 T6 =>
    bnd (m_X6_conkers (-5) 0 T6) fun r7 T8 =>
    some (r7, T8)
def m_X6_round_113 (κ29 : Int32 → Int32 → Tm → Option (Int32 × Tm)) (κ83 : Int32 → Int32 → Int32 → Int32 → Int32 → Int32 → Int32 → Tm → Option (Int32 × Tm)) (b2 : Int32) (b3 : Int32) (b4 : Int32) (b5 : Int32) (b6 : Int32) (b7 : Int32) (b8 : Int32) (T : Tm) : Option (Int32 × Tm) := κ83 b2 b3 b4 b5 b6 b7 (b8 + 1) T
def m_X6_round_83 (κ29 : Int32 → Int32 → Tm → Option (Int32 × Tm)) : Nat → Int32 → Int32 → Int32 → Int32 → Int32 → Int32 → Int32 → Tm → Option (Int32 × Tm)
  | 0, _, _, _, _, _, _, _, _ => none
  | n + 1, b2, b3, b4, b5, b6, b7, b8, T => if b3 ≤ b8 then
    bnd (m_X6_fights 0 b5 b6 T) fun r2 T3 =>
    κ29 (b2 + 1) b7 T3
  else
    if b8 = b4 then
      m_X6_round_113 κ29 (m_X6_round_83 κ29 n) b2 b3 b4 b5 b6 b7 b8 T
    else
      gd (ib b8 6) <| nm (T 3 b8.toNatClampNeg) fun v5 =>
      gd (ib b7 6) <| nm (wT T 3 b7.toNatClampNeg v5) fun T6 =>
      m_X6_round_113 κ29 (m_X6_round_83 κ29 n) b2 b3 b4 b5 b6 (b7 + 1) b8 T6
def m_X6_round_29 : Nat → Int32 → Int32 → Tm → Option (Int32 × Tm)
  | 0, _, _, _ => none
  | n + 1, b2, b3, T => if b3 ≤ 1 then
    some (b2, T)
  else
    bnd (m_X6_goesOn T) fun r2 T3 =>
    nm (T3 0 5) fun v4 =>
    gd (!decide ((b3 - 1) = 0)) <|
    gd (ib 0 6) <| nm (T3 3 ((0 : Int32).toNatClampNeg)) fun v5 =>
    gd (ib v5 6) <| nm (T3 4 v5.toNatClampNeg) fun v6 =>
    gd (ib (1 + (v4 - v4 / (b3 - 1) * (b3 - 1))) 6) <| nm (T3 3 ((1 + (v4 - v4 / (b3 - 1) * (b3 - 1))).toNatClampNeg)) fun v7 =>
    gd (ib v7 6) <| nm (T3 4 v7.toNatClampNeg) fun v8 =>
    m_X6_round_83 (m_X6_round_29 n) fu b2 b3 (1 + (v4 - v4 / (b3 - 1) * (b3 - 1))) v6 v8 0 1 T3
def m_X6_round (a1 : Int32) (T : Tm) : Option (Int32 × Tm) := bnd (m_X6_in a1 0 65535 M00) fun r1 _ =>
  if r1 = 0 then
    some ((-2), T)
  else
    bnd (m_X6_records T) fun r3 T4 =>
    nm (wT T4 0 5 a1) fun T5 =>
    bnd (m_X6_lines T5) fun r6 T7 =>
    m_X6_round_29 fu 0 r6 T7
def m_X6_run_97 (κ29 : Int32 → Int32 → Tm → Option (Int32 × Tm)) (b2 : Int32) (s0 : Int32) (T : Tm) : Option (Int32 × Tm) := κ29 b2 s0 T
def m_X6_run_96 (κ29 : Int32 → Int32 → Tm → Option (Int32 × Tm)) (b2 : Int32) (T : Tm) : Option (Int32 × Tm) := m_X6_run_97 κ29 b2 0 T
def m_X6_run_68 (κ29 : Int32 → Int32 → Tm → Option (Int32 × Tm)) (b2 : Int32) (b4 : Int32) (s0 : Int32) (T : Tm) : Option (Int32 × Tm) := bnd (m_X6_flag b4 M00) fun r1 _ =>
  if b4 = 0 then
    m_X6_run_96 κ29 (b2 + r1) T
  else
    bnd (m_X6_takes 44 T) fun r3 T4 =>
    if r3 = 0 then
      m_X6_run_96 κ29 (b2 + r1) T4
    else
      m_X6_run_97 κ29 (b2 + r1) 1 T4
def m_X6_run_52 (κ29 : Int32 → Int32 → Tm → Option (Int32 × Tm)) (b2 : Int32) (s0 : Int32) (T : Tm) : Option (Int32 × Tm) := if s0 = 0 then
    m_X6_run_68 κ29 b2 s0 (-5) T
  else
    bnd (m_X6_does T) fun r2 T3 =>
    m_X6_run_68 κ29 b2 s0 r2 T3
def m_X6_run_51 (κ29 : Int32 → Int32 → Tm → Option (Int32 × Tm)) (b2 : Int32) (T : Tm) : Option (Int32 × Tm) := m_X6_run_52 κ29 b2 0 T
def m_X6_run_29 : Nat → Int32 → Int32 → Tm → Option (Int32 × Tm)
  | 0, _, _, _ => none
  | n + 1, b2, b3, T => if b3 = 0 then
    some (b2, T)
  else
    bnd (m_X6_readsOrder T) fun r2 T3 =>
    if r2 = 0 then
      m_X6_run_51 (m_X6_run_29 n) b2 T3
    else
      bnd (m_X6_orderError T3) fun r5 T6 =>
      if r5 = 0 then
        m_X6_run_52 (m_X6_run_29 n) b2 1 T6
      else
        m_X6_run_51 (m_X6_run_29 n) b2 T6
def m_X6_run (T : Tm) : Option (Int32 × Tm) := bnd (m_X6_fault T) fun r1 T2 =>
  if r1 = (-5) then
    bnd (m_X6_records T2) fun r4 T5 =>
    nm (wT T5 0 8 0) fun T6 =>
    m_X6_run_29 fu 0 1 T6
  else
    some (((-100) - r1), T2)
def m_X6_save (T : Tm) : Option (Int32 × Tm) := bnd (m_X6_copies 0 6 T) fun r1 T2 =>
  nm (wT T2 0 2 1) fun T3 =>
  bnd (m_X6_conkers (-5) 0 T3) fun r4 T5 =>
  some (r4, T5)
def m_X6_share_18 (T : Tm) : Option (Int32 × Tm) := some ((FP.fconst0).toInt32, T)
def m_X6_share (a1 : Int32) (T : Tm) : Option (Int32 × Tm) := bnd (m_X6_victories (-5) T) fun r1 T2 =>
  bnd (m_X6_isPlayer a1 M00) fun r3 _ =>
  if r3 = 0 then
    m_X6_share_18 T2
  else
    if r1 = 0 then
      m_X6_share_18 T2
    else
      bnd (m_X6_victories a1 T2) fun r6 T7 =>
      gd (decide ((FP.fdiv (FP.i2f r6) (FP.i2f r1)) &&& 0x7fffffff ≤ 0x7f800000)) <|
      some (((FP.fdiv (FP.i2f r6) (FP.i2f r1))).toInt32, T7)
def m_X6_stamp (a1 : Int32) (T : Tm) : Option (Int32 × Tm) := bnd (m_X6_stampError a1 T) fun r1 T2 =>
  if r1 = 0 then
    bnd (m_X6_records T2) fun r4 T5 =>
    bnd (m_X6_stamps a1 T5) fun r6 T7 =>
    some (r6, T7)
  else
    some (r1, T2)
def m_X6_strike (a1 : Int32) (a2 : Int32) (a3 : Int32) (T : Tm) : Option (Int32 × Tm) := bnd (m_X6_strikeError a1 a2 a3 T) fun r1 T2 =>
  if r1 = 0 then
    bnd (m_X6_records T2) fun r4 T5 =>
    bnd (m_X6_strikes 0 a1 a2 a3 T5) fun r6 T7 =>
    some (r6, T7)
  else
    some (r1, T2)
def m_X6_thread_123 (κ70 : Int32 → Int32 → Int32 → Int32 → Tm → Option (Int32 × Tm)) (b1 : Int32) (b2 : Int32) (b3 : Int32) (b4 : Int32) (s1 : Int32) (s2 : Int32) (T : Tm) : Option (Int32 × Tm) := gd (ib s1 2048) <| nm (wT T 1 s1.toNatClampNeg s2) fun T1 =>
  κ70 b1 b2 b3 (b4 + 1) T1
def m_X6_thread_117 (κ70 : Int32 → Int32 → Int32 → Int32 → Tm → Option (Int32 × Tm)) (b1 : Int32) (b2 : Int32) (b3 : Int32) (b4 : Int32) (s1 : Int32) (T : Tm) : Option (Int32 × Tm) := m_X6_thread_123 κ70 b1 b2 b3 b4 s1 (-5) T
def m_X6_thread_70 : Nat → Int32 → Int32 → Int32 → Int32 → Tm → Option (Int32 × Tm)
  | 0, _, _, _, _, _ => none
  | n + 1, b1, b2, b3, b4, T => if 8 ≤ b4 then
    gd (ib (4 + (2 * b1)) 2048) <| nm (T 1 ((4 + (2 * b1)).toNatClampNeg)) fun v2 =>
    gd (ib (4 + (2 * b1)) 2048) <| nm (wT T 1 ((4 + (2 * b1)).toNatClampNeg) (v2 - 1)) fun T3 =>
    gd (ib 0 2048) <| nm (T3 1 ((0 : Int32).toNatClampNeg)) fun v4 =>
    gd (ib 0 2048) <| nm (wT T3 1 ((0 : Int32).toNatClampNeg) (v4 + 1)) fun T5 =>
    gd (ib 0 2048) <| nm (T5 1 ((0 : Int32).toNatClampNeg)) fun v6 =>
    some ((v6 - 1), T5)
  else
    if b4 = 0 then
      m_X6_thread_123 (m_X6_thread_70 n) b1 b2 b3 b4 (b3 + b4) b1 T
    else
      if b4 = 1 then
        m_X6_thread_123 (m_X6_thread_70 n) b1 b2 b3 b4 (b3 + b4) b2 T
      else
        if b4 = 5 then
          m_X6_thread_117 (m_X6_thread_70 n) b1 b2 b3 b4 (b3 + b4) T
        else
          if b4 = 7 then
            m_X6_thread_117 (m_X6_thread_70 n) b1 b2 b3 b4 (b3 + b4) T
          else
            m_X6_thread_123 (m_X6_thread_70 n) b1 b2 b3 b4 (b3 + b4) 0 T
def m_X6_thread (a1 : Int32) (a2 : Int32) (T : Tm) : Option (Int32 × Tm) := bnd (m_X6_isPlayer a1 M00) fun r1 _ =>
  if r1 = 0 then
    some ((-1), T)
  else
    bnd (m_X6_in a2 1 9 M00) fun r3 _ =>
    if r3 = 0 then
      some ((-2), T)
    else
      gd (ib (4 + (2 * a1)) 2048) <| nm (T 1 ((4 + (2 * a1)).toNatClampNeg)) fun v5 =>
      if v5 = 0 then
        some ((-4), T)
      else
        gd (ib 0 2048) <| nm (T 1 ((0 : Int32).toNatClampNeg)) fun v7 =>
        if v7 = 30 then
          some ((-3), T)
        else
          bnd (m_X6_records T) fun r9 T10 =>
          gd (ib 0 2048) <| nm (T10 1 ((0 : Int32).toNatClampNeg)) fun v11 =>
          bnd (m_X6_at 0 v11 M00) fun r12 _ =>
          m_X6_thread_70 fu a1 a2 r12 0 T10
def m_X6_undo (T : Tm) : Option (Int32 × Tm) := nm (T 0 1) fun v1 =>
  if v1 = 0 then
    some ((-5), T)
  else
    nm (T 0 1) fun v3 =>
    bnd (m_X6_copies v3 0 T) fun r4 T5 =>
    nm (T5 0 1) fun v6 =>
    nm (wT T5 0 1 (v6 - 1)) fun T7 =>
    nm (T7 0 1) fun v8 =>
    some (v8, T7)
def m_X6_winner (a1 : Int32) (a2 : Int32) (a3 : Int32) (T : Tm) : Option (Int32 × Tm) := bnd (m_X6_boutError a1 a2 a3 T) fun r1 T2 =>
  if r1 = 0 then
    bnd (m_X6_copies 0 7 T2) fun r4 T5 =>
    nm (wT T5 0 5 a3) fun T6 =>
    bnd (m_X6_fights 1792 a1 a2 T6) fun r7 T8 =>
    bnd (m_X6_at 1792 a1 M00) fun r9 _ =>
    gd (ib (r9 + 7) 2048) <| nm (T8 1 ((r9 + 7).toNatClampNeg)) fun v10 =>
    if v10 = (-5) then
      bnd (m_X6_at 1792 a2 M00) fun r12 _ =>
      gd (ib (r12 + 7) 2048) <| nm (T8 1 ((r12 + 7).toNatClampNeg)) fun v13 =>
      some (v13, T8)
    else
      some (v10, T8)
  else
    some (r1, T2)
