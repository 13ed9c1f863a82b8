/-! MIRRORS: what each method computes, as its bytecode does (written by wip/whole/gen.py) -/
def m_X0_begin (a1 : Int32) (T : Tm) : Option (Int32 × Tm) := nm (wT T 0 0 a1) fun T1 =>
  some (0, T1)
def m_X0_next (T : Tm) : Option (Int32 × Tm) := nm (T 0 0) fun v1 =>
  gd (!decide ((65536 : Int32) = 0)) <|
  nm (wT T 0 0 (((25173 * v1) + 13849) - ((25173 * v1) + 13849) / 65536 * 65536)) fun T2 =>
  nm (T2 0 0) fun v3 =>
  some (v3, T2)
def m_X0_swing (T : Tm) : Option (Int32 × Tm) := bnd (m_X0_next T) fun r1 T2 =>
  gd (!decide ((7282 : Int32) = 0)) <|
  some ((1 + (r1 / 7282)), T2)
def m_X4_copyFrom (k : Nat) (k2 : Nat) (M : Mm) : Option (Int32 × Mm) := nm (uM M k (cT (M k) 1 (M k2 1) 6)) fun M1 =>
  nm (uM M1 k (cT (M1 k) 2 (M1 k2 2) 6)) fun M2 =>
  nm (uM M2 k (cT (M2 k) 3 (M2 k2 3) 30)) fun M3 =>
  nm (uM M3 k (cT (M3 k) 4 (M3 k2 4) 30)) fun M4 =>
  nm (uM M4 k (cT (M4 k) 5 (M4 k2 5) 30)) fun M5 =>
  nm (uM M5 k (cT (M5 k) 6 (M5 k2 6) 30)) fun M6 =>
  nm (uM M6 k (cT (M6 k) 7 (M6 k2 7) 30)) fun M7 =>
  nm (uM M7 k (cT (M7 k) 8 (M7 k2 8) 30)) fun M8 =>
  nm (uM M8 k (cT (M8 k) 9 (M8 k2 9) 30)) fun M9 =>
  nm (uM M9 k (cT (M9 k) 10 (M9 k2 10) 30)) fun M10 =>
  nm (M10 k2 0 10) fun v11 =>
  nm (wM M10 k 0 10 v11) fun M12 =>
  nm (M12 k2 0 11) fun v13 =>
  nm (wM M12 k 0 11 v13) fun M14 =>
  nm (M14 k2 0 12) fun v15 =>
  nm (wM M14 k 0 12 v15) fun M16 =>
  some (0, M16)
def m_X1_bringBack (M : Mm) : Option (Int32 × Mm) := nm (M 12 0 1) fun v1 =>
  if 1 ≤ v1 then
    nm (M 12 0 1) fun v3 =>
    nm (wM M 12 0 1 (v3 - 1)) fun M4 =>
    nm (M4 12 0 1) fun v5 =>
    gd (ib v5 5) <| nm (M4 12 1 v5.toNatClampNeg) fun w6 =>
    gd (sb w6) <| bnd (m_X4_copyFrom 1 w6.toNatClampNeg M4) fun r7 M8 =>
    nm (M8 12 0 1) fun v10 =>
    some (v10, M8)
  else
    some ((-5), M)
def m_X1_dropOldest_9 : Nat → Int32 → Int32 → Tm → Option (Int32 × Tm)
  | 0, _, _, _ => none
  | n + 1, b1, b2, T => if 5 ≤ b2 then
    gd (sb b1) <| gd (ib 4 5) <| nm (wT T 1 ((4 : Int32).toNatClampNeg) b1) fun T2 =>
    nm (T2 0 1) fun v4 =>
    nm (wT T2 0 1 (v4 - 1)) fun T5 =>
    some (0, T5)
  else
    gd (ib b2 5) <| nm (T 1 b2.toNatClampNeg) fun w6 =>
    gd (sb w6) <| gd (ib (b2 - 1) 5) <| nm (wT T 1 ((b2 - 1).toNatClampNeg) w6) fun T7 =>
    m_X1_dropOldest_9 n b1 (b2 + 1) T7
def m_X1_dropOldest (T : Tm) : Option (Int32 × Tm) := gd (ib 0 5) <| nm (T 1 ((0 : Int32).toNatClampNeg)) fun w1 =>
  m_X1_dropOldest_9 fu w1 1 T
def m_X1_keep_12 (M : Mm) : Option (Int32 × Mm) := nm (M 12 0 1) fun v1 =>
  gd (ib v1 5) <| nm (M 12 1 v1.toNatClampNeg) fun w2 =>
  gd (sb w2) <| bnd (m_X4_copyFrom w2.toNatClampNeg 1 M) fun r3 M4 =>
  nm (M4 12 0 1) fun v6 =>
  nm (wM M4 12 0 1 (v6 + 1)) fun M7 =>
  some (0, M7)
def m_X1_keep (M : Mm) : Option (Int32 × Mm) := nm (M 12 0 1) fun v1 =>
  if v1 < 5 then
    m_X1_keep_12 M
  else
    bnd (m_X1_dropOldest (M 12)) fun r3 M4 => nm (uM M 12 M4) fun M5 =>
    m_X1_keep_12 M5
def m_X2_insert_68 (b1 : Int32) (b4 : Int32) (M : Mm) : Option (Int32 × Mm) := gd (ib b4 6) <| nm (wM M 11 1 b4.toNatClampNeg b1) fun M1 =>
  nm (M1 11 0 1) fun v2 =>
  nm (wM M1 11 0 1 (v2 + 1)) fun M3 =>
  some (0, M3)
def m_X2_insert_18 : Nat → Int32 → Int32 → Int32 → Mm → Option (Int32 × Mm)
  | 0, _, _, _, _ => none
  | n + 1, b1, b3, b4, M => if b4 ≤ 0 then
    m_X2_insert_68 b1 b4 M
  else
    gd (ib (b4 - 1) 6) <| nm (M 11 1 ((b4 - 1).toNatClampNeg)) fun v2 =>
    gd (ib v2 30) <| nm (M 1 3 v2.toNatClampNeg) fun v3 =>
    gd (ib v3 6) <| nm (M 1 2 v3.toNatClampNeg) fun v4 =>
    if v4 ≤ b3 then
      m_X2_insert_68 b1 b4 M
    else
      gd (ib (b4 - 1) 6) <| nm (M 11 1 ((b4 - 1).toNatClampNeg)) fun v6 =>
      gd (ib b4 6) <| nm (wM M 11 1 b4.toNatClampNeg v6) fun M7 =>
      m_X2_insert_18 n b1 b3 (b4 + (-1)) M7
def m_X2_insert (a1 : Int32) (M : Mm) : Option (Int32 × Mm) := gd (ib a1 30) <| nm (M 1 3 a1.toNatClampNeg) fun v1 =>
  gd (ib v1 6) <| nm (M 1 2 v1.toNatClampNeg) fun v2 =>
  nm (M 11 0 1) fun v3 =>
  m_X2_insert_18 fu a1 v2 v3 M
def m_X4_conkerToSend_53 (κ5 : Int32 → Int32 → Int32 → Tm → Option (Int32 × Tm)) (b1 : Int32) (b2 : Int32) (b3 : Int32) (T : Tm) : Option (Int32 × Tm) := κ5 b1 b2 (b3 + 1) T
def m_X4_conkerToSend_51 (κ5 : Int32 → Int32 → Int32 → Tm → Option (Int32 × Tm)) (b1 : Int32) (b3 : Int32) (T : Tm) : Option (Int32 × Tm) := m_X4_conkerToSend_53 κ5 b1 b3 b3 T
def m_X4_conkerToSend_5 : Nat → Int32 → Int32 → Int32 → Tm → Option (Int32 × Tm)
  | 0, _, _, _, _ => none
  | n + 1, b1, b2, b3, T => nm (T 0 10) fun v1 =>
  if v1 ≤ b3 then
    some (b2, T)
  else
    gd (ib b3 30) <| nm (T 9 b3.toNatClampNeg) fun v3 =>
    if v3 = 0 then
      gd (ib b3 30) <| nm (T 3 b3.toNatClampNeg) fun v5 =>
      if v5 = b1 then
        if b2 < 0 then
          m_X4_conkerToSend_51 (m_X4_conkerToSend_5 n) b1 b3 T
        else
          gd (ib b3 30) <| nm (T 7 b3.toNatClampNeg) fun v8 =>
          gd (ib b2 30) <| nm (T 7 b2.toNatClampNeg) fun v9 =>
          if v8 ≤ v9 then
            m_X4_conkerToSend_53 (m_X4_conkerToSend_5 n) b1 b2 b3 T
          else
            m_X4_conkerToSend_51 (m_X4_conkerToSend_5 n) b1 b3 T
      else
        m_X4_conkerToSend_53 (m_X4_conkerToSend_5 n) b1 b2 b3 T
    else
      m_X4_conkerToSend_53 (m_X4_conkerToSend_5 n) b1 b2 b3 T
def m_X4_conkerToSend (a1 : Int32) (T : Tm) : Option (Int32 × Tm) := m_X4_conkerToSend_5 fu a1 (-5) 0 T
def m_X2_lineUp_29 (κ7 : Int32 → Mm → Option (Int32 × Mm)) (b2 : Int32) (M : Mm) : Option (Int32 × Mm) := κ7 (b2 + 1) M
def m_X2_lineUp_7 : Nat → Int32 → Mm → Option (Int32 × Mm)
  | 0, _, _ => none
  | n + 1, b2, M => if 6 ≤ b2 then
    some (0, M)
  else
    bnd (m_X4_conkerToSend b2 (M 1)) fun r2 M3 => nm (uM M 1 M3) fun M4 =>
    if r2 < 0 then
      m_X2_lineUp_29 (m_X2_lineUp_7 n) b2 M4
    else
      bnd (m_X2_insert r2 M4) fun r6 M7 =>
      m_X2_lineUp_29 (m_X2_lineUp_7 n) b2 M7
def m_X2_lineUp (M : Mm) : Option (Int32 × Mm) := nm (wM M 11 0 1 0) fun M1 =>
  m_X2_lineUp_7 fu 0 M1
def m_X2_takeOut_11 : Nat → Int32 → Int32 → Tm → Option (Int32 × Tm)
  | 0, _, _, _ => none
  | n + 1, b2, b3, T => nm (T 0 1) fun v1 =>
  if v1 ≤ b3 then
    nm (T 0 1) fun v3 =>
    nm (wT T 0 1 (v3 - 1)) fun T4 =>
    some (b2, T4)
  else
    gd (ib b3 6) <| nm (T 1 b3.toNatClampNeg) fun v5 =>
    gd (ib (b3 - 1) 6) <| nm (wT T 1 ((b3 - 1).toNatClampNeg) v5) fun T6 =>
    m_X2_takeOut_11 n b2 (b3 + 1) T6
def m_X2_takeOut (a1 : Int32) (T : Tm) : Option (Int32 × Tm) := gd (ib a1 6) <| nm (T 1 a1.toNatClampNeg) fun v1 =>
  m_X2_takeOut_11 fu v1 (a1 + 1) T
def m_X4_addConker (a1 : Int32) (a2 : Int32) (T : Tm) : Option (Int32 × Tm) := nm (T 0 10) fun v1 =>
  gd (ib a1 6) <| nm (T 1 a1.toNatClampNeg) fun v2 =>
  gd (ib a1 6) <| nm (wT T 1 a1.toNatClampNeg (v2 - 1)) fun T3 =>
  gd (ib v1 30) <| nm (wT T3 3 v1.toNatClampNeg a1) fun T4 =>
  gd (ib v1 30) <| nm (wT T4 4 v1.toNatClampNeg a2) fun T5 =>
  gd (ib v1 30) <| nm (wT T5 5 v1.toNatClampNeg 0) fun T6 =>
  gd (ib v1 30) <| nm (wT T6 6 v1.toNatClampNeg 0) fun T7 =>
  gd (ib v1 30) <| nm (wT T7 7 v1.toNatClampNeg 0) fun T8 =>
  gd (ib v1 30) <| nm (wT T8 8 v1.toNatClampNeg (-5)) fun T9 =>
  gd (ib v1 30) <| nm (wT T9 9 v1.toNatClampNeg 0) fun T10 =>
  gd (ib v1 30) <| nm (wT T10 10 v1.toNatClampNeg (-5)) fun T11 =>
  nm (T11 0 10) fun v12 =>
  nm (wT T11 0 10 (v12 + 1)) fun T13 =>
  some (v1, T13)
def m_X4_areInPlay (a1 : Int32) (a2 : Int32) (T : Tm) : Option (Int32 × Tm) := gd (ib a1 30) <| nm (T 9 a1.toNatClampNeg) fun v1 =>
  if v1 = 0 then
    gd (ib a2 30) <| nm (T 9 a2.toNatClampNeg) fun v3 =>
    if v3 = 0 then
      some (1, T)
    else
      some (0, T)
  else
    some (0, T)
def m_X4_boastsTold_26 (κ4 : Int32 → Int32 → Tm → Option (Int32 × Tm)) (b1 : Int32) (b2 : Int32) (T : Tm) : Option (Int32 × Tm) := κ4 b1 (b2 + 1) T
def m_X4_boastsTold_4 : Nat → Int32 → Int32 → Tm → Option (Int32 × Tm)
  | 0, _, _, _ => none
  | n + 1, b1, b2, T => nm (T 0 10) fun v1 =>
  if v1 ≤ b2 then
    some (b1, T)
  else
    gd (ib b2 30) <| nm (T 8 b2.toNatClampNeg) fun v3 =>
    if v3 = (-5) then
      m_X4_boastsTold_26 (m_X4_boastsTold_4 n) b1 b2 T
    else
      m_X4_boastsTold_26 (m_X4_boastsTold_4 n) (b1 + 1) b2 T
def m_X4_boastsTold (T : Tm) : Option (Int32 × Tm) := m_X4_boastsTold_4 fu 0 0 T
def m_X4_boastsTooHigh_30 (κ4 : Int32 → Int32 → Tm → Option (Int32 × Tm)) (b1 : Int32) (b2 : Int32) (T : Tm) : Option (Int32 × Tm) := κ4 b1 (b2 + 1) T
def m_X4_boastsTooHigh_4 : Nat → Int32 → Int32 → Tm → Option (Int32 × Tm)
  | 0, _, _, _ => none
  | n + 1, b1, b2, T => nm (T 0 10) fun v1 =>
  if v1 ≤ b2 then
    some (b1, T)
  else
    gd (ib b2 30) <| nm (T 8 b2.toNatClampNeg) fun v3 =>
    gd (ib b2 30) <| nm (T 7 b2.toNatClampNeg) fun v4 =>
    if v3 ≤ v4 then
      m_X4_boastsTooHigh_30 (m_X4_boastsTooHigh_4 n) b1 b2 T
    else
      m_X4_boastsTooHigh_30 (m_X4_boastsTooHigh_4 n) (b1 + 1) b2 T
def m_X4_boastsTooHigh (T : Tm) : Option (Int32 × Tm) := m_X4_boastsTooHigh_4 fu 0 0 T
def m_X5_isWithin (a0 : Int32) (a1 : Int32) (a2 : Int32) (M : Mm) : Option (Int32 × Mm) := if a0 < a1 then
    some (0, M)
  else
    if a2 < a0 then
      some (0, M)
    else
      some (1, M)
def m_X4_hasConker (a1 : Int32) (T : Tm) : Option (Int32 × Tm) := nm (T 0 10) fun v1 =>
  bnd (m_X5_isWithin a1 0 (v1 - 1) M00) fun r2 _ =>
  gd (nb .boolean r2) (some (r2, T))
def m_X4_pairError_49 (T : Tm) : Option (Int32 × Tm) := some ((-4), T)
def m_X4_pairError (a1 : Int32) (a2 : Int32) (a3 : Int32) (T : Tm) : Option (Int32 × Tm) := bnd (m_X4_hasConker a1 T) fun r1 T2 =>
  if r1 = 0 then
    some ((-1), T2)
  else
    bnd (m_X4_hasConker a2 T2) fun r4 T5 =>
    if r4 = 0 then
      some ((-1), T5)
    else
      if a3 = 0 then
        some ((-2), T5)
      else
        gd (ib a1 30) <| nm (T5 3 a1.toNatClampNeg) fun v8 =>
        gd (ib a2 30) <| nm (T5 3 a2.toNatClampNeg) fun v9 =>
        if v8 = v9 then
          m_X4_pairError_49 T5
        else
          bnd (m_X4_areInPlay a1 a2 T5) fun r11 T12 =>
          if r11 = 0 then
            m_X4_pairError_49 T12
          else
            some (0, T12)
def m_X4_boutError (a1 : Int32) (a2 : Int32) (a3 : Int32) (T : Tm) : Option (Int32 × Tm) := bnd (m_X5_isWithin a3 0 65535 M00) fun r1 _ =>
  bnd (m_X4_pairError a1 a2 r1 T) fun r2 T3 =>
  some (r2, T3)
def m_X4_conkersAheadOf_84 (κ4 : Int32 → Int32 → Int32 → Tm → Option (Int32 × Tm)) (b1 : Int32) (b2 : Int32) (b3 : Int32) (T : Tm) : Option (Int32 × Tm) := κ4 b1 b2 (b3 + 1) T
def m_X4_conkersAheadOf_81 (κ4 : Int32 → Int32 → Int32 → Tm → Option (Int32 × Tm)) (b1 : Int32) (b2 : Int32) (b3 : Int32) (T : Tm) : Option (Int32 × Tm) := m_X4_conkersAheadOf_84 κ4 b1 (b2 + 1) b3 T
def m_X4_conkersAheadOf_59 (κ4 : Int32 → Int32 → Int32 → Tm → Option (Int32 × Tm)) (b1 : Int32) (b2 : Int32) (b3 : Int32) (b4 : Int32) (s0 : Int32) (T : Tm) : Option (Int32 × Tm) := gd (ib b3 30) <| nm (T 9 b3.toNatClampNeg) fun v1 =>
  if v1 = 2 then
    m_X4_conkersAheadOf_84 κ4 b1 b2 b3 T
  else
    if b4 = 0 then
      if s0 = 0 then
        m_X4_conkersAheadOf_84 κ4 b1 b2 b3 T
      else
        m_X4_conkersAheadOf_81 κ4 b1 b2 b3 T
    else
      m_X4_conkersAheadOf_81 κ4 b1 b2 b3 T
def m_X4_conkersAheadOf_58 (κ4 : Int32 → Int32 → Int32 → Tm → Option (Int32 × Tm)) (b1 : Int32) (b2 : Int32) (b3 : Int32) (b4 : Int32) (T : Tm) : Option (Int32 × Tm) := m_X4_conkersAheadOf_59 κ4 b1 b2 b3 b4 0 T
def m_X4_conkersAheadOf_32 (κ4 : Int32 → Int32 → Int32 → Tm → Option (Int32 × Tm)) (b1 : Int32) (b2 : Int32) (b3 : Int32) (s0 : Int32) (T : Tm) : Option (Int32 × Tm) := gd (ib b3 30) <| nm (T 7 b3.toNatClampNeg) fun v1 =>
  gd (ib b1 30) <| nm (T 7 b1.toNatClampNeg) fun v2 =>
  if v1 = v2 then
    if b1 ≤ b3 then
      m_X4_conkersAheadOf_58 κ4 b1 b2 b3 s0 T
    else
      m_X4_conkersAheadOf_59 κ4 b1 b2 b3 s0 1 T
  else
    m_X4_conkersAheadOf_58 κ4 b1 b2 b3 s0 T
def m_X4_conkersAheadOf_4 : Nat → Int32 → Int32 → Int32 → Tm → Option (Int32 × Tm)
  | 0, _, _, _, _ => none
  | n + 1, b1, b2, b3, T => nm (T 0 10) fun v1 =>
  if v1 ≤ b3 then
    some (b2, T)
  else
    gd (ib b3 30) <| nm (T 7 b3.toNatClampNeg) fun v3 =>
    gd (ib b1 30) <| nm (T 7 b1.toNatClampNeg) fun v4 =>
    if v3 ≤ v4 then
      m_X4_conkersAheadOf_32 (m_X4_conkersAheadOf_4 n) b1 b2 b3 0 T
    else
      m_X4_conkersAheadOf_32 (m_X4_conkersAheadOf_4 n) b1 b2 b3 1 T
def m_X4_conkersAheadOf (a1 : Int32) (T : Tm) : Option (Int32 × Tm) := m_X4_conkersAheadOf_4 fu a1 0 0 T
def m_X4_conkerAtRank_31 (κ2 : Int32 → Int32 → Tm → Option (Int32 × Tm)) (b1 : Int32) (b2 : Int32) (T : Tm) : Option (Int32 × Tm) := κ2 b1 (b2 + 1) T
def m_X4_conkerAtRank_2 : Nat → Int32 → Int32 → Tm → Option (Int32 × Tm)
  | 0, _, _, _ => none
  | n + 1, b1, b2, T => nm (T 0 10) fun v1 =>
  if v1 ≤ b2 then
    some ((-5), T)
  else
    gd (ib b2 30) <| nm (T 9 b2.toNatClampNeg) fun v3 =>
    if v3 = 2 then
      m_X4_conkerAtRank_31 (m_X4_conkerAtRank_2 n) b1 b2 T
    else
      bnd (m_X4_conkersAheadOf b2 T) fun r5 T6 =>
      if r5 = b1 then
        some (b2, T6)
      else
        m_X4_conkerAtRank_31 (m_X4_conkerAtRank_2 n) b1 b2 T6
def m_X4_conkerAtRank (a1 : Int32) (T : Tm) : Option (Int32 × Tm) := m_X4_conkerAtRank_2 fu a1 0 T
def m_X4_isOf_15 (T : Tm) : Option (Int32 × Tm) := some (1, T)
def m_X4_isOf (a1 : Int32) (a2 : Int32) (T : Tm) : Option (Int32 × Tm) := if a2 = (-1) then
    m_X4_isOf_15 T
  else
    gd (ib a1 30) <| nm (T 3 a1.toNatClampNeg) fun v2 =>
    if v2 = a2 then
      m_X4_isOf_15 T
    else
      some (0, T)
def m_X4_conkersBeing_38 (κ5 : Int32 → Int32 → Int32 → Int32 → Tm → Option (Int32 × Tm)) (b1 : Int32) (b2 : Int32) (b3 : Int32) (b4 : Int32) (T : Tm) : Option (Int32 × Tm) := κ5 b1 b2 b3 (b4 + 1) T
def m_X4_conkersBeing_5 : Nat → Int32 → Int32 → Int32 → Int32 → Tm → Option (Int32 × Tm)
  | 0, _, _, _, _, _ => none
  | n + 1, b1, b2, b3, b4, T => nm (T 0 10) fun v1 =>
  if v1 ≤ b4 then
    some (b3, T)
  else
    gd (ib b4 30) <| nm (T 9 b4.toNatClampNeg) fun v3 =>
    if v3 = b1 then
      bnd (m_X4_isOf b4 b2 T) fun r5 T6 =>
      if r5 = 0 then
        m_X4_conkersBeing_38 (m_X4_conkersBeing_5 n) b1 b2 b3 b4 T6
      else
        m_X4_conkersBeing_38 (m_X4_conkersBeing_5 n) b1 b2 (b3 + 1) b4 T6
    else
      m_X4_conkersBeing_38 (m_X4_conkersBeing_5 n) b1 b2 b3 b4 T
def m_X4_conkersBeing (a1 : Int32) (a2 : Int32) (T : Tm) : Option (Int32 × Tm) := m_X4_conkersBeing_5 fu a1 a2 0 0 T
def m_X4_conkersSmashedBy_25 (κ4 : Int32 → Int32 → Int32 → Tm → Option (Int32 × Tm)) (b1 : Int32) (b2 : Int32) (b3 : Int32) (T : Tm) : Option (Int32 × Tm) := κ4 b1 b2 (b3 + 1) T
def m_X4_conkersSmashedBy_4 : Nat → Int32 → Int32 → Int32 → Tm → Option (Int32 × Tm)
  | 0, _, _, _, _ => none
  | n + 1, b1, b2, b3, T => nm (T 0 10) fun v1 =>
  if v1 ≤ b3 then
    some (b2, T)
  else
    gd (ib b3 30) <| nm (T 10 b3.toNatClampNeg) fun v3 =>
    if v3 = b1 then
      m_X4_conkersSmashedBy_25 (m_X4_conkersSmashedBy_4 n) b1 (b2 + 1) b3 T
    else
      m_X4_conkersSmashedBy_25 (m_X4_conkersSmashedBy_4 n) b1 b2 b3 T
def m_X4_conkersSmashedBy (a1 : Int32) (T : Tm) : Option (Int32 × Tm) := m_X4_conkersSmashedBy_4 fu a1 0 0 T
def m_X4_conkersWithHeir (T : Tm) : Option (Int32 × Tm) := nm (T 0 10) fun v1 =>
  bnd (m_X4_conkersSmashedBy (-5) T) fun r2 T3 =>
  some ((v1 - r2), T3)
def m_X4_takeVictoriesOfSmashed (a1 : Int32) (T : Tm) : Option (Int32 × Tm) := gd (ib a1 30) <| nm (T 7 a1.toNatClampNeg) fun v1 =>
  gd (ib a1 30) <| nm (wT T 7 a1.toNatClampNeg 0) fun T2 =>
  gd (ib a1 30) <| nm (wT T2 8 a1.toNatClampNeg (-5)) fun T3 =>
  gd (ib a1 30) <| nm (wT T3 9 a1.toNatClampNeg 2) fun T4 =>
  some (v1, T4)
def m_X4_crush (a1 : Int32) (T : Tm) : Option (Int32 × Tm) := bnd (m_X4_takeVictoriesOfSmashed a1 T) fun r1 T2 =>
  nm (T2 0 11) fun v3 =>
  nm (wT T2 0 11 (v3 + r1)) fun T4 =>
  some (r1, T4)
def m_X4_fallIfWorn (a1 : Int32) (T : Tm) : Option (Int32 × Tm) := gd (ib a1 30) <| nm (T 9 a1.toNatClampNeg) fun v1 =>
  if v1 = 0 then
    gd (ib a1 30) <| nm (T 6 a1.toNatClampNeg) fun v3 =>
    if v3 = 20 then
      gd (ib a1 30) <| nm (wT T 9 a1.toNatClampNeg 1) fun T5 =>
      some (0, T5)
    else
      some (0, T)
  else
    some (0, T)
def m_X4_fallenError (a1 : Int32) (T : Tm) : Option (Int32 × Tm) := bnd (m_X4_hasConker a1 T) fun r1 T2 =>
  if r1 = 0 then
    some ((-1), T2)
  else
    gd (ib a1 30) <| nm (T2 9 a1.toNatClampNeg) fun v4 =>
    if v4 = 1 then
      some (0, T2)
    else
      some ((-4), T2)
def m_X4_quotient (a0 : Int32) (a1 : Int32) (M : Mm) : Option (Int32 × Mm) := if 1 ≤ a1 then
    gd (!decide (a1 = 0)) <|
    some ((a0 / a1), M)
  else
    some (0, M)
def m_X4_inherit (a1 : Int32) (a2 : Int32) (T : Tm) : Option (Int32 × Tm) := gd (ib a1 30) <| nm (T 7 a1.toNatClampNeg) fun v1 =>
  bnd (m_X4_takeVictoriesOfSmashed a2 T) fun r2 T3 =>
  gd (ib a1 30) <| nm (wT T3 7 a1.toNatClampNeg (v1 + (1 + r2))) fun T4 =>
  gd (ib a2 30) <| nm (wT T4 10 a2.toNatClampNeg a1) fun T5 =>
  some (0, T5)
def m_X4_settleSmashes_59 (b1 : Int32) (b2 : Int32) (b3 : Int32) (b4 : Int32) (T : Tm) : Option (Int32 × Tm) := if b3 = 0 then
    if b4 = 0 then
      some (0, T)
    else
      bnd (m_X4_inherit b1 b2 T) fun r3 T4 =>
      some (0, T4)
  else
    bnd (m_X4_inherit b2 b1 T) fun r5 T6 =>
    some (0, T6)
def m_X4_settleSmashes_33 (b1 : Int32) (b2 : Int32) (b3 : Int32) (s0 : Int32) (T : Tm) : Option (Int32 × Tm) := if b3 = 0 then
    m_X4_settleSmashes_59 b1 b2 b3 s0 T
  else
    if s0 = 0 then
      m_X4_settleSmashes_59 b1 b2 b3 s0 T
    else
      bnd (m_X4_crush b1 T) fun r3 T4 =>
      bnd (m_X4_crush b2 T4) fun r5 T6 =>
      some (0, T6)
def m_X4_settleSmashes_16 (b1 : Int32) (b2 : Int32) (s0 : Int32) (T : Tm) : Option (Int32 × Tm) := gd (ib b2 30) <| nm (T 5 b2.toNatClampNeg) fun v1 =>
  if v1 = 100 then
    m_X4_settleSmashes_33 b1 b2 s0 1 T
  else
    m_X4_settleSmashes_33 b1 b2 s0 0 T
def m_X4_settleSmashes (a1 : Int32) (a2 : Int32) (T : Tm) : Option (Int32 × Tm) := gd (ib a1 30) <| nm (T 5 a1.toNatClampNeg) fun v1 =>
  if v1 = 100 then
    m_X4_settleSmashes_16 a1 a2 1 T
  else
    m_X4_settleSmashes_16 a1 a2 0 T
def m_X4_outcome (a1 : Int32) (a2 : Int32) (a3 : Int32) (T : Tm) : Option (Int32 × Tm) := gd (ib a1 30) <| nm (T 9 a1.toNatClampNeg) fun v1 =>
  if v1 = 2 then
    some (a2, T)
  else
    gd (ib a1 30) <| nm (T 9 a1.toNatClampNeg) fun v3 =>
    if v3 = 1 then
      some (a3, T)
    else
      some (0, T)
def m_X4_hit_112 (b1 : Int32) (b2 : Int32) (s1 : Int32) (s2 : Int32) (s3 : Int32) (T : Tm) : Option (Int32 × Tm) := nm (mn (s2 + s3) 20) fun v1 =>
  gd (ib s1 30) <| nm (wT T 6 s1.toNatClampNeg v1) fun T2 =>
  gd (ib b2 30) <| nm (T2 6 b2.toNatClampNeg) fun v3 =>
  nm (mn (v3 + 1) 20) fun v4 =>
  gd (ib b2 30) <| nm (wT T2 6 b2.toNatClampNeg v4) fun T5 =>
  bnd (m_X4_settleSmashes b1 b2 T5) fun r6 T7 =>
  bnd (m_X4_fallIfWorn b1 T7) fun r8 T9 =>
  bnd (m_X4_fallIfWorn b2 T9) fun r10 T11 =>
  bnd (m_X4_outcome b1 1 4 T11) fun r12 T13 =>
  bnd (m_X4_outcome b2 2 8 T13) fun r14 T15 =>
  some ((r12 + r14), T15)
def m_X4_hit (a1 : Int32) (a2 : Int32) (a3 : Int32) (T : Tm) : Option (Int32 × Tm) := gd (ib a1 30) <| nm (T 4 a1.toNatClampNeg) fun v1 =>
  gd (ib a2 30) <| nm (T 4 a2.toNatClampNeg) fun v2 =>
  bnd (m_X4_quotient (a3 * v1) v2 M00) fun r3 _ =>
  gd (ib a2 30) <| nm (T 4 a2.toNatClampNeg) fun v4 =>
  gd (ib a1 30) <| nm (T 4 a1.toNatClampNeg) fun v5 =>
  bnd (m_X4_quotient (a3 * v4) (2 * v5) M00) fun r6 _ =>
  nm (T 0 12) fun v7 =>
  nm (wT T 0 12 (v7 + 1)) fun T8 =>
  gd (ib a2 30) <| nm (T8 5 a2.toNatClampNeg) fun v9 =>
  nm (mn (v9 + r3) 100) fun v10 =>
  gd (ib a2 30) <| nm (wT T8 5 a2.toNatClampNeg v10) fun T11 =>
  gd (ib a1 30) <| nm (T11 5 a1.toNatClampNeg) fun v12 =>
  nm (mn (v12 + r6) 100) fun v13 =>
  gd (ib a1 30) <| nm (wT T11 5 a1.toNatClampNeg v13) fun T14 =>
  gd (ib a1 30) <| nm (T14 6 a1.toNatClampNeg) fun v15 =>
  if a3 ≤ 6 then
    m_X4_hit_112 a1 a2 a1 v15 1 T14
  else
    m_X4_hit_112 a1 a2 a1 v15 2 T14
def m_X4_fight_66 (k : Nat) (b6 : Int32) (M : Mm) : Option (Int32 × Mm) := some (b6, M)
def m_X4_fight_17 (k : Nat) : Nat → Int32 → Int32 → Int32 → Mm → Option (Int32 × Mm)
  | 0, _, _, _, _ => none
  | n + 1, b4, b5, b6, M => if 20 ≤ b6 then
    m_X4_fight_66 k b6 M
  else
    bnd (m_X4_areInPlay b4 b5 (M k)) fun r2 M3 => nm (uM M k M3) fun M4 =>
    if r2 = 0 then
      m_X4_fight_66 k b6 M4
    else
      bnd (m_X0_swing (M4 10)) fun r6 M7 => nm (uM M4 10 M7) fun M8 =>
      bnd (m_X4_hit b4 b5 r6 (M8 k)) fun r9 M10 => nm (uM M8 k M10) fun M11 =>
      m_X4_fight_17 k n b5 b4 (b6 + 1) M11
def m_X4_fight (k : Nat) (a1 : Int32) (a2 : Int32) (M : Mm) : Option (Int32 × Mm) := nm (mn a1 a2) fun v1 =>
  nm (mx a1 a2) fun v2 =>
  m_X4_fight_17 k fu v1 v2 0 M
def m_X4_isInLineOf_10 : Nat → Int32 → Int32 → Int32 → Tm → Option (Int32 × Tm)
  | 0, _, _, _, _ => none
  | n + 1, b2, b3, b4, T => nm (T 0 10) fun v1 =>
  if v1 ≤ b4 then
    some (0, T)
  else
    bnd (m_X4_hasConker b3 T) fun r3 T4 =>
    if r3 = 0 then
      some (0, T4)
    else
      if b3 = b2 then
        some (1, T4)
      else
        gd (ib b3 30) <| nm (T4 10 b3.toNatClampNeg) fun v7 =>
        m_X4_isInLineOf_10 n b2 v7 (b4 + 1) T4
def m_X4_isInLineOf (a1 : Int32) (a2 : Int32) (T : Tm) : Option (Int32 × Tm) := gd (ib a1 30) <| nm (T 10 a1.toNatClampNeg) fun v1 =>
  m_X4_isInLineOf_10 fu a2 v1 0 T
def m_X4_lengthOfLine_24 (κ4 : Int32 → Int32 → Int32 → Tm → Option (Int32 × Tm)) (b1 : Int32) (b2 : Int32) (b3 : Int32) (T : Tm) : Option (Int32 × Tm) := κ4 b1 b2 (b3 + 1) T
def m_X4_lengthOfLine_4 : Nat → Int32 → Int32 → Int32 → Tm → Option (Int32 × Tm)
  | 0, _, _, _, _ => none
  | n + 1, b1, b2, b3, T => nm (T 0 10) fun v1 =>
  if v1 ≤ b3 then
    some (b2, T)
  else
    bnd (m_X4_isInLineOf b3 b1 T) fun r3 T4 =>
    if r3 = 0 then
      m_X4_lengthOfLine_24 (m_X4_lengthOfLine_4 n) b1 b2 b3 T4
    else
      m_X4_lengthOfLine_24 (m_X4_lengthOfLine_4 n) b1 (b2 + 1) b3 T4
def m_X4_lengthOfLine (a1 : Int32) (T : Tm) : Option (Int32 × Tm) := m_X4_lengthOfLine_4 fu a1 0 0 T
def m_X4_mendError (a1 : Int32) (T : Tm) : Option (Int32 × Tm) := bnd (m_X4_fallenError a1 T) fun r1 T2 =>
  if r1 = 0 then
    gd (ib a1 30) <| nm (T2 3 a1.toNatClampNeg) fun v4 =>
    gd (ib v4 6) <| nm (T2 1 v4.toNatClampNeg) fun v5 =>
    if 1 ≤ v5 then
      some (0, T2)
    else
      some ((-4), T2)
  else
    some (r1, T2)
def m_X4_settleBoast_25 (b2 : Int32) (s0 : Int32) (T : Tm) : Option (Int32 × Tm) := gd (ib s0 6) <| nm (T 2 s0.toNatClampNeg) fun v1 =>
  gd (ib s0 6) <| nm (wT T 2 s0.toNatClampNeg (v1 + 1)) fun T2 =>
  gd (ib b2 30) <| nm (wT T2 8 b2.toNatClampNeg (-5)) fun T3 =>
  some (s0, T3)
def m_X4_settleBoast (a1 : Int32) (a2 : Int32) (T : Tm) : Option (Int32 × Tm) := gd (ib a2 30) <| nm (T 8 a2.toNatClampNeg) fun v1 =>
  gd (ib a2 30) <| nm (T 7 a2.toNatClampNeg) fun v2 =>
  if v1 ≤ v2 then
    m_X4_settleBoast_25 a2 a1 T
  else
    gd (ib a2 30) <| nm (T 3 a2.toNatClampNeg) fun v4 =>
    m_X4_settleBoast_25 a2 v4 T
def m_X4_strikeError (a1 : Int32) (a2 : Int32) (a3 : Int32) (T : Tm) : Option (Int32 × Tm) := bnd (m_X5_isWithin a3 1 9 M00) fun r1 _ =>
  bnd (m_X4_pairError a1 a2 r1 T) fun r2 T3 =>
  some (r2, T3)
def m_X4_threadAgain (a1 : Int32) (T : Tm) : Option (Int32 × Tm) := gd (ib a1 30) <| nm (T 3 a1.toNatClampNeg) fun v1 =>
  gd (ib v1 6) <| nm (T 1 v1.toNatClampNeg) fun v2 =>
  gd (ib v1 6) <| nm (wT T 1 v1.toNatClampNeg (v2 - 1)) fun T3 =>
  gd (ib a1 30) <| nm (wT T3 6 a1.toNatClampNeg 0) fun T4 =>
  gd (ib a1 30) <| nm (wT T4 9 a1.toNatClampNeg 0) fun T5 =>
  gd (ib v1 6) <| nm (T5 1 v1.toNatClampNeg) fun v6 =>
  some (v6, T5)
def m_X4_victoriesOf_30 (κ4 : Int32 → Int32 → Int32 → Tm → Option (Int32 × Tm)) (b1 : Int32) (b2 : Int32) (b3 : Int32) (T : Tm) : Option (Int32 × Tm) := κ4 b1 b2 (b3 + 1) T
def m_X4_victoriesOf_4 : Nat → Int32 → Int32 → Int32 → Tm → Option (Int32 × Tm)
  | 0, _, _, _, _ => none
  | n + 1, b1, b2, b3, T => nm (T 0 10) fun v1 =>
  if v1 ≤ b3 then
    some (b2, T)
  else
    bnd (m_X4_isOf b3 b1 T) fun r3 T4 =>
    if r3 = 0 then
      m_X4_victoriesOf_30 (m_X4_victoriesOf_4 n) b1 b2 b3 T4
    else
      gd (ib b3 30) <| nm (T4 7 b3.toNatClampNeg) fun v6 =>
      m_X4_victoriesOf_30 (m_X4_victoriesOf_4 n) b1 (b2 + v6) b3 T4
def m_X4_victoriesOf (a1 : Int32) (T : Tm) : Option (Int32 × Tm) := m_X4_victoriesOf_4 fu a1 0 0 T
def m_X5_boast (a1 : Int32) (a2 : Int32) (M : Mm) : Option (Int32 × Mm) := bnd (m_X4_hasConker a1 (M 1)) fun r1 M2 => nm (uM M 1 M2) fun M3 =>
  if r1 = 0 then
    some ((-1), M3)
  else
    bnd (m_X5_isWithin a2 0 99 M00) fun r5 _ =>
    if r5 = 0 then
      some ((-2), M3)
    else
      gd (ib a1 30) <| nm (M3 1 9 a1.toNatClampNeg) fun v7 =>
      if v7 = 2 then
        some ((-4), M3)
      else
        bnd (m_X1_keep M3) fun r9 M10 =>
        gd (ib a1 30) <| nm (M10 1 8 a1.toNatClampNeg) fun v11 =>
        gd (ib a1 30) <| nm (wM M10 1 8 a1.toNatClampNeg a2) fun M12 =>
        some (v11, M12)
def m_X5_bout (a1 : Int32) (a2 : Int32) (a3 : Int32) (M : Mm) : Option (Int32 × Mm) := bnd (m_X4_boutError a1 a2 a3 (M 1)) fun r1 M2 => nm (uM M 1 M2) fun M3 =>
  if r1 = 0 then
    bnd (m_X1_keep M3) fun r5 M6 =>
    bnd (m_X0_begin a3 (M6 10)) fun r7 M8 => nm (uM M6 10 M8) fun M9 =>
    bnd (m_X4_fight 1 a1 a2 M9) fun r10 M11 =>
    some (r10, M11)
  else
    some (r1, M3)
def m_X5_conker (a1 : Int32) (a2 : Int32) (M : Mm) : Option (Int32 × Mm) := bnd (m_X4_hasConker a1 (M 1)) fun r1 M2 => nm (uM M 1 M2) fun M3 =>
  if r1 = 0 then
    some ((-1), M3)
  else
    if a2 = 0 then
      gd (ib a1 30) <| nm (M3 1 3 a1.toNatClampNeg) fun v6 =>
      some (v6, M3)
    else if a2 = 1 then
      gd (ib a1 30) <| nm (M3 1 4 a1.toNatClampNeg) fun v8 =>
      some (v8, M3)
    else if a2 = 2 then
      gd (ib a1 30) <| nm (M3 1 5 a1.toNatClampNeg) fun v10 =>
      some (v10, M3)
    else if a2 = 3 then
      gd (ib a1 30) <| nm (M3 1 6 a1.toNatClampNeg) fun v12 =>
      some (v12, M3)
    else if a2 = 4 then
      gd (ib a1 30) <| nm (M3 1 7 a1.toNatClampNeg) fun v14 =>
      some (v14, M3)
    else if a2 = 5 then
      gd (ib a1 30) <| nm (M3 1 8 a1.toNatClampNeg) fun v16 =>
      some (v16, M3)
    else if a2 = 6 then
      gd (ib a1 30) <| nm (M3 1 9 a1.toNatClampNeg) fun v18 =>
      some (v18, M3)
    else if a2 = 7 then
      gd (ib a1 30) <| nm (M3 1 10 a1.toNatClampNeg) fun v20 =>
      some (v20, M3)
    else if a2 = 8 then
      bnd (m_X4_conkersSmashedBy a1 (M3 1)) fun r22 M23 => nm (uM M3 1 M23) fun M24 =>
      some (r22, M24)
    else 
      some ((-2), M3)
def m_X5_count (a1 : Int32) (M : Mm) : Option (Int32 × Mm) := if a1 = 0 then
    nm (M 1 0 10) fun v2 =>
    some (v2, M)
  else if a1 = 1 then
    bnd (m_X4_conkersBeing 0 (-1) (M 1)) fun r4 M5 => nm (uM M 1 M5) fun M6 =>
    some (r4, M6)
  else if a1 = 2 then
    bnd (m_X4_conkersBeing 1 (-1) (M 1)) fun r8 M9 => nm (uM M 1 M9) fun M10 =>
    some (r8, M10)
  else if a1 = 3 then
    bnd (m_X4_conkersBeing 2 (-1) (M 1)) fun r12 M13 => nm (uM M 1 M13) fun M14 =>
    some (r12, M14)
  else if a1 = 4 then
    bnd (m_X4_victoriesOf (-1) (M 1)) fun r16 M17 => nm (uM M 1 M17) fun M18 =>
    some (r16, M18)
  else if a1 = 5 then
    nm (M 1 0 11) fun v20 =>
    some (v20, M)
  else if a1 = 6 then
    nm (M 1 0 12) fun v22 =>
    some (v22, M)
  else if a1 = 7 then
    bnd (m_X4_conkersWithHeir (M 1)) fun r24 M25 => nm (uM M 1 M25) fun M26 =>
    some (r24, M26)
  else if a1 = 8 then
    bnd (m_X4_boastsTold (M 1)) fun r28 M29 => nm (uM M 1 M29) fun M30 =>
    some (r28, M30)
  else if a1 = 9 then
    bnd (m_X4_boastsTooHigh (M 1)) fun r32 M33 => nm (uM M 1 M33) fun M34 =>
    some (r32, M34)
  else if a1 = 10 then
    nm (M 12 0 1) fun v36 =>
    some (v36, M)
  else if a1 = 11 then
    nm (M 9 0 1) fun v38 =>
    some (v38, M)
  else 
    some ((-2), M)
def m_X5_isPlayer (a0 : Int32) (M : Mm) : Option (Int32 × Mm) := bnd (m_X5_isWithin a0 0 5 M00) fun r1 _ =>
  gd (nb .boolean r1) (some (r1, M))
def m_X5_doubt (a1 : Int32) (a2 : Int32) (M : Mm) : Option (Int32 × Mm) := bnd (m_X5_isPlayer a1 M00) fun r1 _ =>
  if r1 = 0 then
    some ((-1), M)
  else
    bnd (m_X4_hasConker a2 (M 1)) fun r3 M4 => nm (uM M 1 M4) fun M5 =>
    if r3 = 0 then
      some ((-1), M5)
    else
      gd (ib a2 30) <| nm (M5 1 3 a2.toNatClampNeg) fun v7 =>
      if v7 = a1 then
        some ((-2), M5)
      else
        gd (ib a2 30) <| nm (M5 1 8 a2.toNatClampNeg) fun v9 =>
        if v9 = (-5) then
          some ((-4), M5)
        else
          bnd (m_X1_keep M5) fun r11 M12 =>
          bnd (m_X4_settleBoast a1 a2 (M12 1)) fun r13 M14 => nm (uM M12 1 M14) fun M15 =>
          some (r13, M15)
def m_X5_give (a1 : Int32) (a2 : Int32) (M : Mm) : Option (Int32 × Mm) := bnd (m_X5_isPlayer a1 M00) fun r1 _ =>
  if r1 = 0 then
    some ((-1), M)
  else
    bnd (m_X5_isWithin a2 1 9 M00) fun r3 _ =>
    if r3 = 0 then
      some ((-2), M)
    else
      gd (ib a1 6) <| nm (M 1 1 a1.toNatClampNeg) fun v5 =>
      if (v5 + a2) ≤ 20 then
        bnd (m_X1_keep M) fun r7 M8 =>
        gd (ib a1 6) <| nm (M8 1 1 a1.toNatClampNeg) fun v9 =>
        gd (ib a1 6) <| nm (wM M8 1 1 a1.toNatClampNeg (v9 + a2)) fun M10 =>
        gd (ib a1 6) <| nm (M10 1 1 a1.toNatClampNeg) fun v11 =>
        some (v11, M10)
      else
        some ((-3), M)
def m_X5_tryHit (a1 : Int32) (a2 : Int32) (a3 : Int32) (M : Mm) : Option (Int32 × Mm) := bnd (m_X4_copyFrom 3 1 M) fun r1 M2 =>
  bnd (m_X4_hit a1 a2 a3 (M2 3)) fun r3 M4 => nm (uM M2 3 M4) fun M5 =>
  some (r3, M5)
def m_X5_ifStruck (a1 : Int32) (a2 : Int32) (a3 : Int32) (M : Mm) : Option (Int32 × Mm) := bnd (m_X4_strikeError a1 a2 a3 (M 1)) fun r1 M2 => nm (uM M 1 M2) fun M3 =>
  if r1 = 0 then
    bnd (m_X5_tryHit a1 a2 a3 M3) fun r5 M6 =>
    some (r5, M6)
  else
    some (r1, M3)
def m_X5_leastSwing_20 : Nat → Int32 → Int32 → Int32 → Mm → Option (Int32 × Mm)
  | 0, _, _, _, _ => none
  | n + 1, b1, b2, b4, M => if 9 < b4 then
    some ((-5), M)
  else
    bnd (m_X5_tryHit b1 b2 b4 M) fun r2 M3 =>
    if (r2 &&& 3) = 2 then
      some (b4, M3)
    else
      m_X5_leastSwing_20 n b1 b2 (b4 + 1) M3
def m_X5_leastSwing (a1 : Int32) (a2 : Int32) (M : Mm) : Option (Int32 × Mm) := bnd (m_X4_strikeError a1 a2 1 (M 1)) fun r1 M2 => nm (uM M 1 M2) fun M3 =>
  if r1 = 0 then
    m_X5_leastSwing_20 fu a1 a2 1 M3
  else
    some (r1, M3)
def m_X5_line (a1 : Int32) (M : Mm) : Option (Int32 × Mm) := bnd (m_X4_hasConker a1 (M 1)) fun r1 M2 => nm (uM M 1 M2) fun M3 =>
  if r1 = 0 then
    some ((-1), M3)
  else
    bnd (m_X4_lengthOfLine a1 (M3 1)) fun r5 M6 => nm (uM M3 1 M6) fun M7 =>
    some (r5, M7)
def m_X5_mend (a1 : Int32) (M : Mm) : Option (Int32 × Mm) := bnd (m_X4_mendError a1 (M 1)) fun r1 M2 => nm (uM M 1 M2) fun M3 =>
  if r1 = 0 then
    bnd (m_X1_keep M3) fun r5 M6 =>
    bnd (m_X4_threadAgain a1 (M6 1)) fun r7 M8 => nm (uM M6 1 M8) fun M9 =>
    some (r7, M9)
  else
    some (r1, M3)
def m_X5_player (a1 : Int32) (a2 : Int32) (M : Mm) : Option (Int32 × Mm) := bnd (m_X5_isPlayer a1 M00) fun r1 _ =>
  if r1 = 0 then
    some ((-1), M)
  else
    if a2 = 0 then
      gd (ib a1 6) <| nm (M 1 1 a1.toNatClampNeg) fun v4 =>
      some (v4, M)
    else if a2 = 1 then
      gd (ib a1 6) <| nm (M 1 2 a1.toNatClampNeg) fun v6 =>
      some (v6, M)
    else if a2 = 2 then
      bnd (m_X4_conkersBeing 0 a1 (M 1)) fun r8 M9 => nm (uM M 1 M9) fun M10 =>
      some (r8, M10)
    else if a2 = 3 then
      bnd (m_X4_conkersBeing 1 a1 (M 1)) fun r12 M13 => nm (uM M 1 M13) fun M14 =>
      some (r12, M14)
    else if a2 = 4 then
      bnd (m_X4_conkersBeing 2 a1 (M 1)) fun r16 M17 => nm (uM M 1 M17) fun M18 =>
      some (r16, M18)
    else if a2 = 5 then
      bnd (m_X4_victoriesOf a1 (M 1)) fun r20 M21 => nm (uM M 1 M21) fun M22 =>
      some (r20, M22)
    else if a2 = 6 then
      bnd (m_X4_conkerToSend a1 (M 1)) fun r24 M25 => nm (uM M 1 M25) fun M26 =>
      some (r24, M26)
    else 
      some ((-2), M)
def m_X5_ranked (a1 : Int32) (M : Mm) : Option (Int32 × Mm) := if 0 ≤ a1 then
    bnd (m_X4_conkerAtRank a1 (M 1)) fun r2 M3 => nm (uM M 1 M3) fun M4 =>
    some (r2, M4)
  else
    some ((-2), M)
def m_X5_round_120 (b2 : Int32) (M : Mm) : Option (Int32 × Mm) := some (b2, M)
def m_X5_round_45 : Nat → Int32 → Mm → Option (Int32 × Mm)
  | 0, _, _ => none
  | n + 1, b2, M => if 6 ≤ b2 then
    m_X5_round_120 b2 M
  else
    nm (M 11 0 1) fun v2 =>
    if v2 < 2 then
      m_X5_round_120 b2 M
    else
      bnd (m_X0_next (M 10)) fun r4 M5 => nm (uM M 10 M5) fun M6 =>
      nm (M6 11 0 1) fun v7 =>
      gd (!decide ((v7 - 1) = 0)) <|
      bnd (m_X2_takeOut (1 + (r4 - r4 / (v7 - 1) * (v7 - 1))) (M6 11)) fun r8 M9 => nm (uM M6 11 M9) fun M10 =>
      bnd (m_X2_takeOut 0 (M10 11)) fun r11 M12 => nm (uM M10 11 M12) fun M13 =>
      bnd (m_X4_fight 1 r11 r8 M13) fun r14 M15 =>
      m_X5_round_45 n (b2 + 1) M15
def m_X5_round (a1 : Int32) (M : Mm) : Option (Int32 × Mm) := bnd (m_X5_isWithin a1 0 65535 M00) fun r1 _ =>
  if r1 = 0 then
    some ((-2), M)
  else
    bnd (m_X1_keep M) fun r3 M4 =>
    bnd (m_X0_begin a1 (M4 10)) fun r5 M6 => nm (uM M4 10 M6) fun M7 =>
    bnd (m_X2_lineUp M7) fun r8 M9 =>
    m_X5_round_45 fu 0 M9
def m_X5_share_21 (M : Mm) : Option (Int32 × Mm) := some ((FP.fconst0).toInt32, M)
def m_X5_share (a1 : Int32) (M : Mm) : Option (Int32 × Mm) := bnd (m_X4_victoriesOf (-1) (M 1)) fun r1 M2 => nm (uM M 1 M2) fun M3 =>
  bnd (m_X5_isPlayer a1 M00) fun r4 _ =>
  if r4 = 0 then
    m_X5_share_21 M3
  else
    if 1 ≤ r1 then
      bnd (m_X4_victoriesOf a1 (M3 1)) fun r7 M8 => nm (uM M3 1 M8) fun M9 =>
      gd (decide ((FP.fdiv (FP.i2f r7) (FP.i2f r1)) &&& 0x7fffffff ≤ 0x7f800000)) <|
      some (((FP.fdiv (FP.i2f r7) (FP.i2f r1))).toInt32, M9)
    else
      m_X5_share_21 M3
def m_X5_stamp (a1 : Int32) (M : Mm) : Option (Int32 × Mm) := bnd (m_X4_fallenError a1 (M 1)) fun r1 M2 => nm (uM M 1 M2) fun M3 =>
  if r1 = 0 then
    bnd (m_X1_keep M3) fun r5 M6 =>
    bnd (m_X4_crush a1 (M6 1)) fun r7 M8 => nm (uM M6 1 M8) fun M9 =>
    some (r7, M9)
  else
    some (r1, M3)
def m_X5_strike (a1 : Int32) (a2 : Int32) (a3 : Int32) (M : Mm) : Option (Int32 × Mm) := bnd (m_X4_strikeError a1 a2 a3 (M 1)) fun r1 M2 => nm (uM M 1 M2) fun M3 =>
  if r1 = 0 then
    bnd (m_X1_keep M3) fun r5 M6 =>
    bnd (m_X4_hit a1 a2 a3 (M6 1)) fun r7 M8 => nm (uM M6 1 M8) fun M9 =>
    some (r7, M9)
  else
    some (r1, M3)
def m_X5_thread (a1 : Int32) (a2 : Int32) (M : Mm) : Option (Int32 × Mm) := bnd (m_X5_isPlayer a1 M00) fun r1 _ =>
  if r1 = 0 then
    some ((-1), M)
  else
    bnd (m_X5_isWithin a2 1 9 M00) fun r3 _ =>
    if r3 = 0 then
      some ((-2), M)
    else
      gd (ib a1 6) <| nm (M 1 1 a1.toNatClampNeg) fun v5 =>
      if 1 ≤ v5 then
        nm (M 1 0 10) fun v7 =>
        if v7 < 30 then
          bnd (m_X1_keep M) fun r9 M10 =>
          bnd (m_X4_addConker a1 a2 (M10 1)) fun r11 M12 => nm (uM M10 1 M12) fun M13 =>
          some (r11, M13)
        else
          some ((-3), M)
      else
        some ((-4), M)
def m_X5_undo (M : Mm) : Option (Int32 × Mm) := bnd (m_X1_bringBack M) fun r1 M2 =>
  some (r1, M2)
def m_X5_winner_91 (b1 : Int32) (b2 : Int32) (b5 : Int32) (s0 : Int32) (M : Mm) : Option (Int32 × Mm) := if b5 = s0 then
    some ((-5), M)
  else
    if b5 = 0 then
      some (b1, M)
    else
      some (b2, M)
def m_X5_winner_71 (b1 : Int32) (b2 : Int32) (s0 : Int32) (M : Mm) : Option (Int32 × Mm) := gd (ib b2 30) <| nm (M 3 9 b2.toNatClampNeg) fun v1 =>
  if v1 = 2 then
    m_X5_winner_91 b1 b2 s0 1 M
  else
    m_X5_winner_91 b1 b2 s0 0 M
def m_X5_winner (a1 : Int32) (a2 : Int32) (a3 : Int32) (M : Mm) : Option (Int32 × Mm) := bnd (m_X4_boutError a1 a2 a3 (M 1)) fun r1 M2 => nm (uM M 1 M2) fun M3 =>
  if r1 = 0 then
    bnd (m_X4_copyFrom 3 1 M3) fun r5 M6 =>
    bnd (m_X0_begin a3 (M6 10)) fun r7 M8 => nm (uM M6 10 M8) fun M9 =>
    bnd (m_X4_fight 3 a1 a2 M9) fun r10 M11 =>
    gd (ib a1 30) <| nm (M11 3 9 a1.toNatClampNeg) fun v12 =>
    if v12 = 2 then
      m_X5_winner_71 a1 a2 1 M11
    else
      m_X5_winner_71 a1 a2 0 M11
  else
    some (r1, M3)
def m_L_low (a0 : Int32) (a1 : Int32) (M : Mm) : Option (Int32 × Mm) := gd (!decide (a1 = 0)) <|
  some (((a0 &&& 2147483647) - (a0 &&& 2147483647) / a1 * a1), M)
def m_L_act_204 (b2 : Int32) (M : Mm) : Option (Int32 × Mm) := bnd (m_L_low b2 65536 M00) fun r1 _ =>
  bnd (m_X5_round r1 M) fun r2 M3 =>
  some (r2, M3)
def m_L_act_190 (b2 : Int32) (b3 : Int32) (b4 : Int32) (M : Mm) : Option (Int32 × Mm) := bnd (m_L_low b2 65536 M00) fun r1 _ =>
  bnd (m_X5_bout b3 b4 r1 M) fun r2 M3 =>
  some (r2, M3)
def m_L_act_155 (b3 : Int32) (M : Mm) : Option (Int32 × Mm) := bnd (m_X5_mend b3 M) fun r1 M2 =>
  some (r1, M2)
def m_L_act_143 (b2 : Int32) (b3 : Int32) (M : Mm) : Option (Int32 × Mm) := bnd (m_L_low b2 6 M00) fun r1 _ =>
  bnd (m_X5_doubt r1 b3 M) fun r2 M3 =>
  some (r2, M3)
def m_L_act_92 (b1 : Int32) (b2 : Int32) (M : Mm) : Option (Int32 × Mm) := bnd (m_L_low (b1 >>> (4 &&& 31)) 4 M00) fun r1 _ =>
  bnd (m_L_low b2 9 M00) fun r2 _ =>
  bnd (m_X5_thread r1 (1 + r2) M) fun r3 M4 =>
  some (r3, M4)
def m_L_act (a1 : Int32) (a2 : Int32) (M : Mm) : Option (Int32 × Mm) := bnd (m_L_low (a1 >>> (4 &&& 31)) 9 M00) fun r1 _ =>
  bnd (m_L_low (a1 >>> (8 &&& 31)) 9 M00) fun r2 _ =>
  bnd (m_L_low a1 17 M00) fun r3 _ =>
  if r3 = 0 then
    m_L_act_92 a1 a2 M
  else if r3 = 1 then
    m_L_act_92 a1 a2 M
  else if r3 = 2 then
    bnd (m_L_low (a1 >>> (4 &&& 31)) 4 M00) fun r7 _ =>
    bnd (m_L_low a2 9 M00) fun r8 _ =>
    bnd (m_X5_give r7 (1 + r8) M) fun r9 M10 =>
    some (r9, M10)
  else if r3 = 3 then
    bnd (m_L_low a2 4 M00) fun r12 _ =>
    bnd (m_X5_boast r1 r12 M) fun r13 M14 =>
    some (r13, M14)
  else if r3 = 4 then
    m_L_act_143 a2 r1 M
  else if r3 = 5 then
    m_L_act_143 a2 r1 M
  else if r3 = 6 then
    m_L_act_155 r1 M
  else if r3 = 7 then
    m_L_act_155 r1 M
  else if r3 = 8 then
    bnd (m_L_low a2 2 M00) fun r20 _ =>
    if r20 = 0 then
      bnd (m_X5_stamp r1 M) fun r22 M23 =>
      some (r22, M23)
    else
      bnd (m_L_low (a2 >>> (1 &&& 31)) 3 M00) fun r24 _ =>
      bnd (m_X5_boast r1 r24 M) fun r25 M26 =>
      some (r25, M26)
  else if r3 = 9 then
    m_L_act_190 a2 r1 r2 M
  else if r3 = 10 then
    m_L_act_190 a2 r1 r2 M
  else if r3 = 11 then
    m_L_act_204 a2 M
  else if r3 = 12 then
    m_L_act_204 a2 M
  else 
    bnd (m_L_low a2 9 M00) fun r31 _ =>
  bnd (m_X5_strike r1 r2 (1 + r31) M) fun r32 M33 =>
  some (r32, M33)
def m_L_conkers_442 (b2 : Int32) (s0 : Int32) (M : Mm) : Option (Int32 × Mm) := if s0 = 0 then
    some (0, M)
  else
    bnd (m_X5_count 5 M) fun r2 M3 => nm (uM M3 13 (M 13)) fun M4 =>
    bnd (m_X5_count 7 M4) fun r5 M6 => nm (uM M6 13 (M4 13)) fun M7 =>
    if (b2 + r2) = r5 then
      some (1, M7)
    else
      some (0, M7)
def m_L_conkers_441 (b2 : Int32) (M : Mm) : Option (Int32 × Mm) := m_L_conkers_442 b2 0 M
def m_L_conkers_324 (κ20 : Int32 → Int32 → Int32 → Int32 → Int32 → Int32 → Mm → Option (Int32 × Mm)) (b2 : Int32) (b3 : Int32) (b4 : Int32) (b5 : Int32) (b6 : Int32) (b7 : Int32) (b11 : Int32) (M : Mm) : Option (Int32 × Mm) := bnd (m_X5_line b7 M) fun r1 M2 => nm (uM M2 13 (M 13)) fun M3 =>
  if r1 = b11 then
    bnd (m_X5_conker b7 8 M3) fun r5 M6 => nm (uM M6 13 (M3 13)) fun M7 =>
    if r5 ≤ b11 then
      κ20 b2 b3 b4 b5 b6 (b7 + 1) M7
    else
      some (0, M7)
  else
    some (0, M3)
def m_L_conkers_278 (κ20 : Int32 → Int32 → Int32 → Int32 → Int32 → Int32 → Mm → Option (Int32 × Mm)) (b2 : Int32) (b3 : Int32) (b4 : Int32) (b5 : Int32) (b6 : Int32) (b7 : Int32) (b9 : Int32) (b11 : Int32) (M : Mm) : Option (Int32 × Mm) := bnd (m_X5_conker b7 2 M) fun r1 M2 => nm (uM M2 13 (M 13)) fun M3 =>
  if 100 < r1 then
    some (0, M3)
  else
    if b9 < 0 then
      m_L_conkers_324 κ20 b2 b3 b4 b5 b6 b7 b11 M3
    else
      bnd (m_X5_conker b9 0 M3) fun r6 M7 => nm (uM M7 13 (M3 13)) fun M8 =>
      bnd (m_X5_conker b7 0 M8) fun r9 M10 => nm (uM M10 13 (M8 13)) fun M11 =>
      if r6 = r9 then
        some (0, M11)
      else
        bnd (m_X5_conker b7 2 M11) fun r13 M14 => nm (uM M14 13 (M11 13)) fun M15 =>
        if r13 = 100 then
          m_L_conkers_324 κ20 b2 b3 b4 b5 b6 b7 b11 M15
        else
          some (0, M15)
def m_L_conkers_260 (κ20 : Int32 → Int32 → Int32 → Int32 → Int32 → Int32 → Mm → Option (Int32 × Mm)) (b2 : Int32) (b3 : Int32) (b4 : Int32) (b5 : Int32) (b6 : Int32) (b7 : Int32) (b8 : Int32) (b9 : Int32) (b11 : Int32) (M : Mm) : Option (Int32 × Mm) := if b8 = 1 then
    bnd (m_X5_conker b7 3 M) fun r2 M3 => nm (uM M3 13 (M 13)) fun M4 =>
    if r2 = 20 then
      m_L_conkers_278 κ20 b2 b3 b4 b5 b6 b7 b9 b11 M4
    else
      some (0, M4)
  else
    m_L_conkers_278 κ20 b2 b3 b4 b5 b6 b7 b9 b11 M
def m_L_conkers_243 (κ20 : Int32 → Int32 → Int32 → Int32 → Int32 → Int32 → Mm → Option (Int32 × Mm)) (b2 : Int32) (b3 : Int32) (b4 : Int32) (b5 : Int32) (b6 : Int32) (b7 : Int32) (b8 : Int32) (b9 : Int32) (b11 : Int32) (M : Mm) : Option (Int32 × Mm) := if b8 = 0 then
    bnd (m_X5_conker b7 3 M) fun r2 M3 => nm (uM M3 13 (M 13)) fun M4 =>
    if 19 < r2 then
      some (0, M4)
    else
      m_L_conkers_260 κ20 b2 b3 b4 b5 b6 b7 b8 b9 b11 M4
  else
    m_L_conkers_260 κ20 b2 b3 b4 b5 b6 b7 b8 b9 b11 M
def m_L_conkers_187 (κ20 : Int32 → Int32 → Int32 → Int32 → Int32 → Int32 → Mm → Option (Int32 × Mm)) (κ150 : Int32 → Int32 → Int32 → Int32 → Int32 → Int32 → Int32 → Int32 → Int32 → Int32 → Int32 → Mm → Option (Int32 × Mm)) (b2 : Int32) (b3 : Int32) (b4 : Int32) (b5 : Int32) (b6 : Int32) (b7 : Int32) (b8 : Int32) (b9 : Int32) (b10 : Int32) (b12 : Int32) (s0 : Int32) (s1 : Int32) (M : Mm) : Option (Int32 × Mm) := κ150 b2 b3 b4 b5 b6 b7 b8 b9 b10 (s0 + s1) (b12 + 1) M
def m_L_conkers_150 (κ20 : Int32 → Int32 → Int32 → Int32 → Int32 → Int32 → Mm → Option (Int32 × Mm)) : Nat → Int32 → Int32 → Int32 → Int32 → Int32 → Int32 → Int32 → Int32 → Int32 → Int32 → Int32 → Mm → Option (Int32 × Mm)
  | 0, _, _, _, _, _, _, _, _, _, _, _, _ => none
  | n + 1, b2, b3, b4, b5, b6, b7, b8, b9, b10, b11, b12, M => bnd (m_X5_count 0 M) fun r1 M2 => nm (uM M2 13 (M 13)) fun M3 =>
  if r1 ≤ b12 then
    if b8 = 2 then
      bnd (m_X5_conker b7 4 M3) fun r6 M7 => nm (uM M7 13 (M3 13)) fun M8 =>
      if r6 = 0 then
        if b10 = (-5) then
          m_L_conkers_243 κ20 b2 b3 b4 b5 b6 b7 b8 b9 b11 M8
        else
          some (0, M8)
      else
        some (0, M8)
    else
      if b9 = (-5) then
        bnd (m_X5_conker b7 2 M3) fun r12 M13 => nm (uM M13 13 (M3 13)) fun M14 =>
        if r12 ≤ 99 then
          m_L_conkers_243 κ20 b2 b3 b4 b5 b6 b7 b8 b9 b11 M14
        else
          some (0, M14)
      else
        some (0, M3)
  else
    bnd (m_X5_conker b12 7 M3) fun r16 M17 => nm (uM M17 13 (M3 13)) fun M18 =>
    if r16 = b7 then
      bnd (m_X5_line b12 M18) fun r20 M21 => nm (uM M21 13 (M18 13)) fun M22 =>
      m_L_conkers_187 κ20 (m_L_conkers_150 κ20 n) b2 b3 b4 b5 b6 b7 b8 b9 b10 b12 b11 (1 + r20) M22
    else
      m_L_conkers_187 κ20 (m_L_conkers_150 κ20 n) b2 b3 b4 b5 b6 b7 b8 b9 b10 b12 b11 0 M18
def m_L_conkers_128 (κ20 : Int32 → Int32 → Int32 → Int32 → Int32 → Int32 → Mm → Option (Int32 × Mm)) (b2 : Int32) (b3 : Int32) (b4 : Int32) (b6 : Int32) (b7 : Int32) (b8 : Int32) (b9 : Int32) (b10 : Int32) (s0 : Int32) (s1 : Int32) (M : Mm) : Option (Int32 × Mm) := bnd (m_X5_conker b7 8 M) fun r1 M2 => nm (uM M2 13 (M 13)) fun M3 =>
  m_L_conkers_150 κ20 fu b2 b3 b4 (s0 + s1) (b6 + r1) b7 b8 b9 b10 0 0 M3
def m_L_conkers_111 (κ20 : Int32 → Int32 → Int32 → Int32 → Int32 → Int32 → Mm → Option (Int32 × Mm)) (b2 : Int32) (b3 : Int32) (b5 : Int32) (b6 : Int32) (b7 : Int32) (b8 : Int32) (b9 : Int32) (b10 : Int32) (s0 : Int32) (s1 : Int32) (M : Mm) : Option (Int32 × Mm) := if b9 = (-5) then
    m_L_conkers_128 κ20 b2 b3 (s0 + s1) b6 b7 b8 b9 b10 b5 0 M
  else
    m_L_conkers_128 κ20 b2 b3 (s0 + s1) b6 b7 b8 b9 b10 b5 1 M
def m_L_conkers_90 (κ20 : Int32 → Int32 → Int32 → Int32 → Int32 → Int32 → Mm → Option (Int32 × Mm)) (b2 : Int32) (b4 : Int32) (b5 : Int32) (b6 : Int32) (b7 : Int32) (b8 : Int32) (b9 : Int32) (b10 : Int32) (s0 : Int32) (s1 : Int32) (M : Mm) : Option (Int32 × Mm) := bnd (m_X5_conker b7 4 M) fun r1 M2 => nm (uM M2 13 (M 13)) fun M3 =>
  if b10 ≤ r1 then
    m_L_conkers_111 κ20 b2 (s0 + s1) b5 b6 b7 b8 b9 b10 b4 0 M3
  else
    m_L_conkers_111 κ20 b2 (s0 + s1) b5 b6 b7 b8 b9 b10 b4 1 M3
def m_L_conkers_20 : Nat → Int32 → Int32 → Int32 → Int32 → Int32 → Int32 → Mm → Option (Int32 × Mm)
  | 0, _, _, _, _, _, _, _ => none
  | n + 1, b2, b3, b4, b5, b6, b7, M => bnd (m_X5_count 0 M) fun r1 M2 => nm (uM M2 13 (M 13)) fun M3 =>
  if r1 ≤ b7 then
    bnd (m_X5_count 1 M3) fun r5 M6 => nm (uM M6 13 (M3 13)) fun M7 =>
    gd (ib 0 3) <| nm (M7 13 1 ((0 : Int32).toNatClampNeg)) fun v8 =>
    if r5 = v8 then
      bnd (m_X5_count 2 M7) fun r10 M11 => nm (uM M11 13 (M7 13)) fun M12 =>
      gd (ib 1 3) <| nm (M12 13 1 ((1 : Int32).toNatClampNeg)) fun v13 =>
      if r10 = v13 then
        bnd (m_X5_count 3 M12) fun r15 M16 => nm (uM M16 13 (M12 13)) fun M17 =>
        gd (ib 2 3) <| nm (M17 13 1 ((2 : Int32).toNatClampNeg)) fun v18 =>
        if r15 = v18 then
          bnd (m_X5_count 4 M17) fun r20 M21 => nm (uM M21 13 (M17 13)) fun M22 =>
          if r20 = b2 then
            bnd (m_X5_count 8 M22) fun r24 M25 => nm (uM M25 13 (M22 13)) fun M26 =>
            if r24 = b3 then
              bnd (m_X5_count 9 M26) fun r28 M29 => nm (uM M29 13 (M26 13)) fun M30 =>
              if r28 = b4 then
                bnd (m_X5_count 7 M30) fun r32 M33 => nm (uM M33 13 (M30 13)) fun M34 =>
                if r32 = b5 then
                  if b6 = b5 then
                    m_L_conkers_442 b2 1 M34
                  else
                    m_L_conkers_441 b2 M34
                else
                  m_L_conkers_441 b2 M34
              else
                m_L_conkers_441 b2 M30
            else
              m_L_conkers_441 b2 M26
          else
            m_L_conkers_441 b2 M22
        else
          m_L_conkers_441 b2 M17
      else
        m_L_conkers_441 b2 M12
    else
      m_L_conkers_441 b2 M7
  else
    bnd (m_X5_conker b7 6 M3) fun r37 M38 => nm (uM M38 13 (M3 13)) fun M39 =>
    bnd (m_X5_conker b7 7 M39) fun r40 M41 => nm (uM M41 13 (M39 13)) fun M42 =>
    bnd (m_X5_conker b7 5 M42) fun r43 M44 => nm (uM M44 13 (M42 13)) fun M45 =>
    gd (ib r37 3) <| nm (M45 13 1 r37.toNatClampNeg) fun v46 =>
    gd (ib r37 3) <| nm (wM M45 13 1 r37.toNatClampNeg (v46 + 1)) fun M47 =>
    bnd (m_X5_conker b7 4 M47) fun r48 M49 => nm (uM M49 13 (M47 13)) fun M50 =>
    if r43 = (-5) then
      m_L_conkers_90 (m_L_conkers_20 n) (b2 + r48) b4 b5 b6 b7 r37 r40 r43 b3 0 M50
    else
      m_L_conkers_90 (m_L_conkers_20 n) (b2 + r48) b4 b5 b6 b7 r37 r40 r43 b3 1 M50
def m_L_conkers_3 (M : Mm) : Option (Int32 × Mm) := m_L_conkers_20 fu 0 0 0 0 0 0 M
def m_L_conkers (M : Mm) : Option (Int32 × Mm) := nm (uM M 13 (fun _ _ => 0)) fun M1 => m_L_conkers_3 M1
def m_L_print_73 : Nat → Int64 → Int32 → Mm → Option (Int32 × Mm)
  | 0, _, _, _ => none
  | n + 1, j1, b3, M => if 12 ≤ b3 then
    some (0, uM M 99 (enc j1))
  else
    gd (!decide ((2 : Int32) = 0)) <|
    gd (!decide ((2 : Int32) = 0)) <|
    bnd (m_X5_player (b3 / 2) (b3 - b3 / 2 * 2) M) fun r2 M3 =>
    m_L_print_73 n ((31 * j1) + (r2.toInt64)) (b3 + 1) M3
def m_L_print_33 : Nat → Int64 → Int32 → Mm → Option (Int32 × Mm)
  | 0, _, _, _ => none
  | n + 1, j1, b3, M => bnd (m_X5_count 0 M) fun r1 M2 =>
  if (9 * r1) ≤ b3 then
    m_L_print_73 fu j1 0 M2
  else
    gd (!decide ((9 : Int32) = 0)) <|
    gd (!decide ((9 : Int32) = 0)) <|
    bnd (m_X5_conker (b3 / 9) (b3 - b3 / 9 * 9) M2) fun r4 M5 =>
    m_L_print_33 n ((31 * j1) + (r4.toInt64)) (b3 + 1) M5
def m_L_print_6 : Nat → Int64 → Int32 → Mm → Option (Int32 × Mm)
  | 0, _, _, _ => none
  | n + 1, j1, b3, M => if 10 ≤ b3 then
    m_L_print_33 fu j1 0 M
  else
    bnd (m_X5_count b3 M) fun r2 M3 =>
    m_L_print_6 n ((31 * j1) + (r2.toInt64)) (b3 + 1) M3
def m_L_print (M : Mm) : Option (Int32 × Mm) := m_L_print_6 fu 23 0 M
noncomputable def m_L_fights_220 (j5 : Int64) (s0 : Int32) (M : Mm) : Option (Int32 × Mm) := if s0 = 0 then
    some (0, M)
  else
    bnd (m_X5_undo M) fun r2 M3 =>
    if r2 < 0 then
      some (0, M3)
    else
      bnd (m_L_print M3) fun _ M6 => nm (dec M6) fun r5 =>
      if (lg_cmp r5 j5) = 0 then
        some (1, M6)
      else
        some (0, M6)
noncomputable def m_L_fights_219 (j5 : Int64) (M : Mm) : Option (Int32 × Mm) := m_L_fights_220 j5 0 M
noncomputable def m_L_fights_208 (j5 : Int64) (M : Mm) : Option (Int32 × Mm) := bnd (m_L_conkers M) fun r1 M2 =>
  if r1 = 0 then
    m_L_fights_219 j5 M2
  else
    m_L_fights_220 j5 1 M2
noncomputable def m_L_fights_171 (b4 : Int32) (j5 : Int64) (b9 : Int32) (M : Mm) : Option (Int32 × Mm) := bnd (m_X5_conker b9 6 M) fun r1 M2 =>
  if r1 = 2 then
    bnd (m_X5_conker b9 7 M2) fun r4 M5 =>
    if r4 = b4 then
      bnd (m_X5_conker b4 6 M5) fun r7 M8 =>
      if 2 ≤ r7 then
        m_L_fights_219 j5 M8
      else
        m_L_fights_208 j5 M8
    else
      m_L_fights_219 j5 M5
  else
    m_L_fights_219 j5 M2
noncomputable def m_L_fights_125 (b1 : Int32) (b2 : Int32) (b4 : Int32) (j5 : Int64) (b9 : Int32) (M : Mm) : Option (Int32 × Mm) := if b4 = (-5) then
    bnd (m_X5_conker b1 7 M) fun r2 M3 =>
    if r2 = b4 then
      bnd (m_X5_conker b2 7 M3) fun r5 M6 =>
      if r5 = b4 then
        m_L_fights_208 j5 M6
      else
        m_L_fights_219 j5 M6
    else
      m_L_fights_219 j5 M3
  else
    if b4 = b1 then
      m_L_fights_171 b4 j5 b9 M
    else
      if b4 = b2 then
        m_L_fights_171 b4 j5 b9 M
      else
        m_L_fights_219 j5 M
noncomputable def m_L_fights_71 (b1 : Int32) (b2 : Int32) (b4 : Int32) (j5 : Int64) (b7 : Int32) (b8 : Int32) (s0 : Int32) (M : Mm) : Option (Int32 × Mm) := if b8 < 1 then
    m_L_fights_219 j5 M
  else
    if 20 < b8 then
      m_L_fights_219 j5 M
    else
      bnd (m_X5_count 6 M) fun r3 M4 =>
      if r3 = (b7 + b8) then
        if b8 = 20 then
          m_L_fights_125 b1 b2 b4 j5 s0 M4
        else
          bnd (m_X5_conker b1 6 M4) fun r7 M8 =>
          bnd (m_X5_conker b2 6 M8) fun r9 M10 =>
          if (r7 + r9) ≤ 0 then
            m_L_fights_219 j5 M10
          else
            m_L_fights_125 b1 b2 b4 j5 s0 M10
      else
        m_L_fights_219 j5 M4
noncomputable def m_L_fights (a1 : Int32) (a2 : Int32) (a3 : Int32) (M : Mm) : Option (Int32 × Mm) := bnd (m_X5_winner a1 a2 a3 M) fun r1 M2 =>
  bnd (m_L_print M2) fun _ M4 => nm (dec M4) fun r3 =>
  bnd (m_X5_count 6 M4) fun r5 M6 =>
  bnd (m_X5_bout a1 a2 a3 M6) fun r7 M8 =>
  if 0 ≤ r7 then
    if r1 = a1 then
      m_L_fights_71 a1 a2 r1 r3 r5 r7 a2 M8
    else
      m_L_fights_71 a1 a2 r1 r3 r5 r7 a1 M8
  else
    if r7 = r1 then
      bnd (m_L_print M8) fun _ M13 => nm (dec M13) fun r12 =>
      if (lg_cmp r12 r3) = 0 then
        some (1, M13)
      else
        some (0, M13)
    else
      some (0, M8)
def m_L_hangs_393 (κ103 : Int32 → Int32 → Int32 → Mm → Option (Int32 × Mm)) (b1 : Int32) (b3 : Int32) (b4 : Int32) (sf0 : UInt32) (sf1 : UInt32) (M : Mm) : Option (Int32 × Mm) := if (Op.cmpValue (FP.fcmp sf0 sf1) .l) = 0 then
    κ103 b1 b3 (b4 + 1) M
  else
    some (0, M)
def m_L_hangs_338 (κ103 : Int32 → Int32 → Int32 → Mm → Option (Int32 × Mm)) (b1 : Int32) (b3 : Int32) (b4 : Int32) (M : Mm) : Option (Int32 × Mm) := bnd (m_X5_player b4 0 M) fun r1 M2 =>
  if r1 < 0 then
    some (0, M2)
  else
    bnd (m_X5_player b4 0 M2) fun r4 M5 =>
    if 20 < r4 then
      some (0, M5)
    else
      bnd (m_X5_share b4 M5) fun r7 M8 =>
      bnd (m_X5_count 4 M8) fun r9 M10 =>
      if r9 = 0 then
        m_L_hangs_393 κ103 b1 b3 b4 r7.toUInt32 FP.fconst0 M10
      else
        bnd (m_X5_player b4 5 M10) fun r12 M13 =>
        bnd (m_X5_count 4 M13) fun r14 M15 =>
        gd (decide ((FP.fdiv (FP.i2f r12) (FP.i2f r14)) &&& 0x7fffffff ≤ 0x7f800000)) <|
        m_L_hangs_393 κ103 b1 b3 b4 r7.toUInt32 (FP.fdiv (FP.i2f r12) (FP.i2f r14)) M15
def m_L_hangs_307 (κ103 : Int32 → Int32 → Int32 → Mm → Option (Int32 × Mm)) (b1 : Int32) (b3 : Int32) (b4 : Int32) (b5 : Int32) (s0 : Int32) (s1 : Int32) (M : Mm) : Option (Int32 × Mm) := if s0 = s1 then
    if b5 < 0 then
      m_L_hangs_338 κ103 b1 b3 b4 M
    else
      bnd (m_X5_conker b5 0 M) fun r3 M4 =>
      if r3 = b4 then
        bnd (m_X5_conker b5 6 M4) fun r6 M7 =>
        if r6 = 0 then
          m_L_hangs_338 κ103 b1 b3 b4 M7
        else
          some (0, M7)
      else
        some (0, M4)
  else
    some (0, M)
def m_L_hangs_292 (κ103 : Int32 → Int32 → Int32 → Mm → Option (Int32 × Mm)) (b1 : Int32) (b3 : Int32) (b4 : Int32) (b5 : Int32) (s0 : Int32) (M : Mm) : Option (Int32 × Mm) := bnd (m_X5_player b4 2 M) fun r1 M2 =>
  if r1 = 0 then
    m_L_hangs_307 κ103 b1 b3 b4 b5 s0 1 M2
  else
    m_L_hangs_307 κ103 b1 b3 b4 b5 s0 0 M2
def m_L_hangs_259 (κ103 : Int32 → Int32 → Int32 → Mm → Option (Int32 × Mm)) (κ151 : Int32 → Int32 → Int32 → Int32 → Int32 → Int32 → Int32 → Mm → Option (Int32 × Mm)) (b1 : Int32) (b3 : Int32) (b4 : Int32) (b5 : Int32) (b6 : Int32) (b7 : Int32) (b8 : Int32) (M : Mm) : Option (Int32 × Mm) := κ151 b1 b3 b4 b5 b6 b7 (b8 + 1) M
def m_L_hangs_192 (κ103 : Int32 → Int32 → Int32 → Mm → Option (Int32 × Mm)) (κ151 : Int32 → Int32 → Int32 → Int32 → Int32 → Int32 → Int32 → Mm → Option (Int32 × Mm)) (b1 : Int32) (b3 : Int32) (b4 : Int32) (b5 : Int32) (b6 : Int32) (b8 : Int32) (b9 : Int32) (s0 : Int32) (s1 : Int32) (M : Mm) : Option (Int32 × Mm) := if b9 = 0 then
    m_L_hangs_259 κ103 κ151 b1 b3 b4 b5 b6 (s0 + s1) b8 M
  else
    bnd (m_X5_conker b8 6 M) fun r2 M3 =>
    if r2 = 0 then
      if b5 < 0 then
        some (0, M3)
      else
        bnd (m_X5_conker b8 4 M3) fun r6 M7 =>
        bnd (m_X5_conker b5 4 M7) fun r8 M9 =>
        if r8 < r6 then
          some (0, M9)
        else
          bnd (m_X5_conker b8 4 M9) fun r11 M12 =>
          bnd (m_X5_conker b5 4 M12) fun r13 M14 =>
          if r11 = r13 then
            if b5 ≤ b8 then
              m_L_hangs_259 κ103 κ151 b1 b3 b4 b5 b6 (s0 + s1) b8 M14
            else
              some (0, M14)
          else
            m_L_hangs_259 κ103 κ151 b1 b3 b4 b5 b6 (s0 + s1) b8 M14
    else
      m_L_hangs_259 κ103 κ151 b1 b3 b4 b5 b6 (s0 + s1) b8 M3
def m_L_hangs_178 (κ103 : Int32 → Int32 → Int32 → Mm → Option (Int32 × Mm)) (κ151 : Int32 → Int32 → Int32 → Int32 → Int32 → Int32 → Int32 → Mm → Option (Int32 × Mm)) (b1 : Int32) (b3 : Int32) (b4 : Int32) (b5 : Int32) (b6 : Int32) (b7 : Int32) (b8 : Int32) (s0 : Int32) (M : Mm) : Option (Int32 × Mm) := if s0 = 0 then
    m_L_hangs_192 κ103 κ151 b1 b3 b4 b5 b6 b8 s0 b7 0 M
  else
    m_L_hangs_192 κ103 κ151 b1 b3 b4 b5 b6 b8 s0 b7 1 M
def m_L_hangs_151 (κ103 : Int32 → Int32 → Int32 → Mm → Option (Int32 × Mm)) : Nat → Int32 → Int32 → Int32 → Int32 → Int32 → Int32 → Int32 → Mm → Option (Int32 × Mm)
  | 0, _, _, _, _, _, _, _, _ => none
  | n + 1, b1, b3, b4, b5, b6, b7, b8, M => bnd (m_X5_count 0 M) fun r1 M2 =>
  if r1 ≤ b8 then
    bnd (m_X5_player b4 5 M2) fun r4 M5 =>
    if b6 = b7 then
      if 0 ≤ b5 then
        m_L_hangs_292 κ103 b1 (b3 + r4) b4 b5 0 M5
      else
        m_L_hangs_292 κ103 b1 (b3 + r4) b4 b5 1 M5
    else
      some (0, M5)
  else
    bnd (m_X5_conker b8 0 M2) fun r8 M9 =>
    if r8 = b4 then
      m_L_hangs_178 κ103 (m_L_hangs_151 κ103 n) b1 b3 b4 b5 b6 b7 b8 1 M9
    else
      m_L_hangs_178 κ103 (m_L_hangs_151 κ103 n) b1 b3 b4 b5 b6 b7 b8 0 M9
def m_L_hangs_103 : Nat → Int32 → Int32 → Int32 → Mm → Option (Int32 × Mm)
  | 0, _, _, _, _ => none
  | n + 1, b1, b3, b4, M => if 6 ≤ b4 then
    bnd (m_X5_ranked b1 M) fun r2 M3 =>
    if r2 = (-5) then
      bnd (m_X5_count 4 M3) fun r5 M6 =>
      if b3 = r5 then
        bnd (m_L_conkers M6) fun r8 M9 =>
        if r8 = 0 then
          some (0, M9)
        else
          some (1, M9)
      else
        some (0, M6)
    else
      some (0, M3)
  else
    bnd (m_X5_player b4 6 M) fun r11 M12 =>
    bnd (m_X5_player b4 2 M12) fun r13 M14 =>
    bnd (m_X5_player b4 3 M14) fun r15 M16 =>
    bnd (m_X5_player b4 4 M16) fun r17 M18 =>
    m_L_hangs_151 (m_L_hangs_103 n) fu b1 b3 b4 r11 ((r13 + r15) + r17) 0 0 M18
def m_L_hangs_89 (κ16 : Int32 → Int32 → Int32 → Mm → Option (Int32 × Mm)) (b1 : Int32) (b3 : Int32) (b4 : Int32) (M : Mm) : Option (Int32 × Mm) := κ16 b1 b4 (b3 + 1) M
def m_L_hangs_16 : Nat → Int32 → Int32 → Int32 → Mm → Option (Int32 × Mm)
  | 0, _, _, _, _ => none
  | n + 1, b1, b2, b3, M => if b1 ≤ b3 then
    m_L_hangs_103 fu b1 0 0 M
  else
    bnd (m_X5_ranked b3 M) fun r2 M3 =>
    if r2 < 0 then
      some (0, M3)
    else
      bnd (m_X5_conker r2 6 M3) fun r5 M6 =>
      if r5 = 2 then
        some (0, M6)
      else
        if b2 < 0 then
          m_L_hangs_89 (m_L_hangs_16 n) b1 b3 r2 M6
        else
          bnd (m_X5_conker r2 4 M6) fun r9 M10 =>
          bnd (m_X5_conker b2 4 M10) fun r11 M12 =>
          if r11 < r9 then
            some (0, M12)
          else
            bnd (m_X5_conker r2 4 M12) fun r14 M15 =>
            bnd (m_X5_conker b2 4 M15) fun r16 M17 =>
            if r14 = r16 then
              if b2 ≤ r2 then
                m_L_hangs_89 (m_L_hangs_16 n) b1 b3 r2 M17
              else
                some (0, M17)
            else
              m_L_hangs_89 (m_L_hangs_16 n) b1 b3 r2 M17
def m_L_hangs (M : Mm) : Option (Int32 × Mm) := bnd (m_X5_count 1 M) fun r1 M2 =>
  bnd (m_X5_count 2 M2) fun r3 M4 =>
  m_L_hangs_16 fu (r1 + r3) (-1) 0 M4
noncomputable def m_L_rounds_105 (j3 : Int64) (s0 : Int32) (M : Mm) : Option (Int32 × Mm) := if s0 = 0 then
    some (0, M)
  else
    bnd (m_X5_undo M) fun r2 M3 =>
    if r2 < 0 then
      some (0, M3)
    else
      bnd (m_L_print M3) fun _ M6 => nm (dec M6) fun r5 =>
      if (lg_cmp r5 j3) = 0 then
        some (1, M6)
      else
        some (0, M6)
noncomputable def m_L_rounds_104 (j3 : Int64) (M : Mm) : Option (Int32 × Mm) := m_L_rounds_105 j3 0 M
noncomputable def m_L_rounds_26 (κ4 : Int32 → Int32 → Int32 → Mm → Option (Int32 × Mm)) (b1 : Int32) (b3 : Int32) (s0 : Int32) (s1 : Int32) (M : Mm) : Option (Int32 × Mm) := κ4 b1 (s0 + s1) (b3 + 1) M
noncomputable def m_L_rounds_4 : Nat → Int32 → Int32 → Int32 → Mm → Option (Int32 × Mm)
  | 0, _, _, _, _ => none
  | n + 1, b1, b2, b3, M => if 6 ≤ b3 then
    bnd (m_L_print M) fun _ M3 => nm (dec M3) fun r2 =>
    bnd (m_X5_count 6 M3) fun r4 M5 =>
    bnd (m_X5_round b1 M5) fun r6 M7 =>
    gd (!decide ((2 : Int32) = 0)) <|
    if r6 = (b2 / 2) then
      bnd (m_X5_count 6 M7) fun r9 M10 =>
      if r9 < (r4 + r6) then
        m_L_rounds_104 r2 M10
      else
        bnd (m_X5_count 6 M10) fun r12 M13 =>
        if (r4 + (20 * r6)) < r12 then
          m_L_rounds_104 r2 M13
        else
          bnd (m_L_hangs M13) fun r15 M16 =>
          if r15 = 0 then
            m_L_rounds_104 r2 M16
          else
            m_L_rounds_105 r2 1 M16
    else
      m_L_rounds_104 r2 M7
  else
    bnd (m_X5_player b3 6 M) fun r18 M19 =>
    if r18 < 0 then
      m_L_rounds_26 (m_L_rounds_4 n) b1 b3 b2 0 M19
    else
      m_L_rounds_26 (m_L_rounds_4 n) b1 b3 b2 1 M19
noncomputable def m_L_rounds (a1 : Int32) (M : Mm) : Option (Int32 × Mm) := m_L_rounds_4 fu a1 0 0 M
noncomputable def m_L_strikes_370 (j6 : Int64) (s0 : Int32) (M : Mm) : Option (Int32 × Mm) := if s0 = 0 then
    some (0, M)
  else
    bnd (m_X5_undo M) fun r2 M3 =>
    if r2 < 0 then
      some (0, M3)
    else
      bnd (m_L_print M3) fun _ M6 => nm (dec M6) fun r5 =>
      if (lg_cmp r5 j6) = 0 then
        some (1, M6)
      else
        some (0, M6)
noncomputable def m_L_strikes_369 (j6 : Int64) (M : Mm) : Option (Int32 × Mm) := m_L_strikes_370 j6 0 M
noncomputable def m_L_strikes_358 (j6 : Int64) (M : Mm) : Option (Int32 × Mm) := bnd (m_L_conkers M) fun r1 M2 =>
  if r1 = 0 then
    m_L_strikes_369 j6 M2
  else
    m_L_strikes_370 j6 1 M2
noncomputable def m_L_strikes_339 (b1 : Int32) (b2 : Int32) (j6 : Int64) (b10 : Int32) (M : Mm) : Option (Int32 × Mm) := gd (!decide ((4 : Int32) = 0)) <|
  if (b10 - b10 / 4 * 4) = 2 then
    bnd (m_X5_conker b2 7 M) fun r2 M3 =>
    if r2 = b1 then
      m_L_strikes_358 j6 M3
    else
      m_L_strikes_369 j6 M3
  else
    m_L_strikes_358 j6 M
noncomputable def m_L_strikes_320 (b1 : Int32) (b2 : Int32) (j6 : Int64) (b10 : Int32) (M : Mm) : Option (Int32 × Mm) := gd (!decide ((4 : Int32) = 0)) <|
  if (b10 - b10 / 4 * 4) = 1 then
    bnd (m_X5_conker b1 7 M) fun r2 M3 =>
    if r2 = b2 then
      m_L_strikes_339 b1 b2 j6 b10 M3
    else
      m_L_strikes_369 j6 M3
  else
    m_L_strikes_339 b1 b2 j6 b10 M
noncomputable def m_L_strikes_300 (b1 : Int32) (b2 : Int32) (b3 : Int32) (b5 : Int32) (j6 : Int64) (b10 : Int32) (M : Mm) : Option (Int32 × Mm) := gd (!decide ((4 : Int32) = 0)) <|
  if (b10 - b10 / 4 * 4) = 2 then
    if b5 < 1 then
      m_L_strikes_369 j6 M
    else
      if b3 < b5 then
        m_L_strikes_369 j6 M
      else
        m_L_strikes_320 b1 b2 j6 b10 M
  else
    m_L_strikes_320 b1 b2 j6 b10 M
noncomputable def m_L_strikes_240 (b1 : Int32) (b2 : Int32) (b3 : Int32) (b5 : Int32) (j6 : Int64) (b9 : Int32) (b10 : Int32) (s0 : Int32) (M : Mm) : Option (Int32 × Mm) := if s0 = 0 then
    m_L_strikes_369 j6 M
  else
    gd (!decide ((4 : Int32) = 0)) <|
    if (b10 - b10 / 4 * 4) = 0 then
      bnd (m_X5_count 4 M) fun r3 M4 =>
      if r3 = b9 then
        m_L_strikes_300 b1 b2 b3 b5 j6 b10 M4
      else
        m_L_strikes_369 j6 M4
    else
      gd (!decide ((4 : Int32) = 0)) <|
      if (b10 - b10 / 4 * 4) = 3 then
        bnd (m_X5_count 4 M) fun r7 M8 =>
        if b9 < r7 then
          m_L_strikes_369 j6 M8
        else
          m_L_strikes_300 b1 b2 b3 b5 j6 b10 M8
      else
        bnd (m_X5_count 4 M) fun r10 M11 =>
        if r10 = (b9 + 1) then
          m_L_strikes_300 b1 b2 b3 b5 j6 b10 M11
        else
          m_L_strikes_369 j6 M11
noncomputable def m_L_strikes_239 (b1 : Int32) (b2 : Int32) (b3 : Int32) (b5 : Int32) (j6 : Int64) (b9 : Int32) (b10 : Int32) (M : Mm) : Option (Int32 × Mm) := m_L_strikes_240 b1 b2 b3 b5 j6 b9 b10 0 M
noncomputable def m_L_strikes_232 (b1 : Int32) (b2 : Int32) (b3 : Int32) (b5 : Int32) (j6 : Int64) (b9 : Int32) (b10 : Int32) (s0 : Int32) (s1 : Int32) (M : Mm) : Option (Int32 × Mm) := if s0 = s1 then
    m_L_strikes_240 b1 b2 b3 b5 j6 b9 b10 1 M
  else
    m_L_strikes_239 b1 b2 b3 b5 j6 b9 b10 M
noncomputable def m_L_strikes_218 (b1 : Int32) (b2 : Int32) (b3 : Int32) (b5 : Int32) (j6 : Int64) (b9 : Int32) (b10 : Int32) (s0 : Int32) (M : Mm) : Option (Int32 × Mm) := gd (!decide ((8 : Int32) = 0)) <|
  if (b10 / 8) = 1 then
    m_L_strikes_232 b1 b2 b3 b5 j6 b9 b10 s0 1 M
  else
    m_L_strikes_232 b1 b2 b3 b5 j6 b9 b10 s0 0 M
noncomputable def m_L_strikes_199 (b1 : Int32) (b2 : Int32) (b3 : Int32) (b5 : Int32) (j6 : Int64) (b9 : Int32) (b10 : Int32) (s0 : Int32) (s1 : Int32) (M : Mm) : Option (Int32 × Mm) := if s0 = s1 then
    bnd (m_X5_conker b2 6 M) fun r2 M3 =>
    if r2 = 1 then
      m_L_strikes_218 b1 b2 b3 b5 j6 b9 b10 1 M3
    else
      m_L_strikes_218 b1 b2 b3 b5 j6 b9 b10 0 M3
  else
    m_L_strikes_239 b1 b2 b3 b5 j6 b9 b10 M
noncomputable def m_L_strikes_184 (b1 : Int32) (b2 : Int32) (b3 : Int32) (b5 : Int32) (j6 : Int64) (b9 : Int32) (b10 : Int32) (s0 : Int32) (M : Mm) : Option (Int32 × Mm) := gd (!decide ((4 : Int32) = 0)) <|
  gd (!decide ((2 : Int32) = 0)) <|
  if ((b10 / 4) - (b10 / 4) / 2 * 2) = 1 then
    m_L_strikes_199 b1 b2 b3 b5 j6 b9 b10 s0 1 M
  else
    m_L_strikes_199 b1 b2 b3 b5 j6 b9 b10 s0 0 M
noncomputable def m_L_strikes_165 (b1 : Int32) (b2 : Int32) (b3 : Int32) (b5 : Int32) (j6 : Int64) (b9 : Int32) (b10 : Int32) (s0 : Int32) (s1 : Int32) (M : Mm) : Option (Int32 × Mm) := if s0 = s1 then
    bnd (m_X5_conker b1 6 M) fun r2 M3 =>
    if r2 = 1 then
      m_L_strikes_184 b1 b2 b3 b5 j6 b9 b10 1 M3
    else
      m_L_strikes_184 b1 b2 b3 b5 j6 b9 b10 0 M3
  else
    m_L_strikes_239 b1 b2 b3 b5 j6 b9 b10 M
noncomputable def m_L_strikes_150 (b1 : Int32) (b2 : Int32) (b3 : Int32) (b5 : Int32) (j6 : Int64) (b9 : Int32) (b10 : Int32) (s0 : Int32) (M : Mm) : Option (Int32 × Mm) := gd (!decide ((2 : Int32) = 0)) <|
  gd (!decide ((2 : Int32) = 0)) <|
  if ((b10 / 2) - (b10 / 2) / 2 * 2) = 1 then
    m_L_strikes_165 b1 b2 b3 b5 j6 b9 b10 s0 1 M
  else
    m_L_strikes_165 b1 b2 b3 b5 j6 b9 b10 s0 0 M
noncomputable def m_L_strikes_131 (b1 : Int32) (b2 : Int32) (b3 : Int32) (b5 : Int32) (j6 : Int64) (b9 : Int32) (b10 : Int32) (s0 : Int32) (s1 : Int32) (M : Mm) : Option (Int32 × Mm) := if s0 = s1 then
    bnd (m_X5_conker b2 6 M) fun r2 M3 =>
    if r2 = 2 then
      m_L_strikes_150 b1 b2 b3 b5 j6 b9 b10 1 M3
    else
      m_L_strikes_150 b1 b2 b3 b5 j6 b9 b10 0 M3
  else
    m_L_strikes_239 b1 b2 b3 b5 j6 b9 b10 M
noncomputable def m_L_strikes_118 (b1 : Int32) (b2 : Int32) (b3 : Int32) (b5 : Int32) (j6 : Int64) (b9 : Int32) (b10 : Int32) (s0 : Int32) (M : Mm) : Option (Int32 × Mm) := gd (!decide ((2 : Int32) = 0)) <|
  if (b10 - b10 / 2 * 2) = 1 then
    m_L_strikes_131 b1 b2 b3 b5 j6 b9 b10 s0 1 M
  else
    m_L_strikes_131 b1 b2 b3 b5 j6 b9 b10 s0 0 M
noncomputable def m_L_strikes (a1 : Int32) (a2 : Int32) (a3 : Int32) (M : Mm) : Option (Int32 × Mm) := bnd (m_X5_ifStruck a1 a2 a3 M) fun r1 M2 =>
  bnd (m_X5_leastSwing a1 a2 M2) fun r3 M4 =>
  bnd (m_L_print M4) fun _ M6 => nm (dec M6) fun r5 =>
  bnd (m_X5_count 6 M6) fun r7 M8 =>
  bnd (m_X5_count 4 M8) fun r9 M10 =>
  bnd (m_X5_strike a1 a2 a3 M10) fun r11 M12 =>
  if 0 ≤ r11 then
    if r11 = r1 then
      bnd (m_X5_count 6 M12) fun r15 M16 =>
      if r15 = (r7 + 1) then
        bnd (m_X5_conker a1 6 M16) fun r18 M19 =>
        if r18 = 2 then
          m_L_strikes_118 a1 a2 a3 r3 r5 r9 r11 1 M19
        else
          m_L_strikes_118 a1 a2 a3 r3 r5 r9 r11 0 M19
      else
        m_L_strikes_239 a1 a2 a3 r3 r5 r9 r11 M16
    else
      m_L_strikes_239 a1 a2 a3 r3 r5 r9 r11 M12
  else
    if r11 = r1 then
      if r3 = r11 then
        bnd (m_L_print M12) fun _ M24 => nm (dec M24) fun r23 =>
        if (lg_cmp r23 r5) = 0 then
          some (1, M24)
        else
          some (0, M24)
      else
        some (0, M12)
    else
      some (0, M12)
noncomputable def m_L_law_409 (N : Nat) (xs : Nat → Int32) (b2 : Int32) (M : Mm) : Option (Int32 × Mm) := gd (nb .boolean b2) (some (b2, M))
noncomputable def m_L_law_402 (N : Nat) (xs : Nat → Int32) (κ31 : Int32 → Int32 → Mm → Option (Int32 × Mm)) (b3 : Int32) (s0 : Int32) (M : Mm) : Option (Int32 × Mm) := κ31 s0 (b3 + 1) M
noncomputable def m_L_law_401 (N : Nat) (xs : Nat → Int32) (κ31 : Int32 → Int32 → Mm → Option (Int32 × Mm)) (b3 : Int32) (M : Mm) : Option (Int32 × Mm) := m_L_law_402 N xs κ31 b3 0 M
noncomputable def m_L_law_397 (N : Nat) (xs : Nat → Int32) (κ31 : Int32 → Int32 → Mm → Option (Int32 × Mm)) (b3 : Int32) (M : Mm) : Option (Int32 × Mm) := m_L_law_402 N xs κ31 b3 1 M
noncomputable def m_L_law_291 (N : Nat) (xs : Nat → Int32) (κ31 : Int32 → Int32 → Mm → Option (Int32 × Mm)) (b2 : Int32) (b3 : Int32) (b4 : Int32) (b5 : Int32) (M : Mm) : Option (Int32 × Mm) := if b2 = 0 then
    m_L_law_401 N xs κ31 b3 M
  else
    bnd (m_L_hangs M) fun r2 M3 =>
    if r2 = 0 then
      m_L_law_401 N xs κ31 b3 M3
    else
      bnd (m_L_low (b4 >>> (5 &&& 31)) 9 M00) fun r5 _ =>
      bnd (m_L_low (b5 >>> (4 &&& 31)) 9 M00) fun r6 _ =>
      bnd (m_L_low (b4 >>> (9 &&& 31)) 9 M00) fun r7 _ =>
      bnd (m_L_strikes r5 r6 (1 + r7) M3) fun r8 M9 =>
      if r8 = 0 then
        m_L_law_401 N xs κ31 b3 M9
      else
        bnd (m_L_low (b5 >>> (6 &&& 31)) 9 M00) fun r11 _ =>
        bnd (m_L_low (b4 >>> (7 &&& 31)) 9 M00) fun r12 _ =>
        bnd (m_L_low (b5 >>> (2 &&& 31)) 65536 M00) fun r13 _ =>
        bnd (m_L_fights r11 r12 r13 M9) fun r14 M15 =>
        if r14 = 0 then
          m_L_law_401 N xs κ31 b3 M15
        else
          gd (!decide ((5 : Int32) = 0)) <|
          if 0 < (b3 - b3 / 5 * 5) then
            m_L_law_397 N xs κ31 b3 M15
          else
            bnd (m_L_low (b4 >>> (3 &&& 31)) 65536 M00) fun r18 _ =>
            bnd (m_L_rounds r18 M15) fun r19 M20 =>
            if r19 = 0 then
              m_L_law_401 N xs κ31 b3 M20
            else
              m_L_law_397 N xs κ31 b3 M20
noncomputable def m_L_law_290 (N : Nat) (xs : Nat → Int32) (κ31 : Int32 → Int32 → Mm → Option (Int32 × Mm)) (b3 : Int32) (b4 : Int32) (b5 : Int32) (s0 : Int32) (M : Mm) : Option (Int32 × Mm) := m_L_law_291 N xs κ31 s0 b3 b4 b5 M
noncomputable def m_L_law_289 (N : Nat) (xs : Nat → Int32) (κ31 : Int32 → Int32 → Mm → Option (Int32 × Mm)) (b3 : Int32) (b4 : Int32) (b5 : Int32) (M : Mm) : Option (Int32 × Mm) := m_L_law_290 N xs κ31 b3 b4 b5 0 M
noncomputable def m_L_law_259 (N : Nat) (xs : Nat → Int32) (κ31 : Int32 → Int32 → Mm → Option (Int32 × Mm)) (b3 : Int32) (b4 : Int32) (b5 : Int32) (j7 : Int64) (b10 : Int32) (s0 : Int32) (s1 : Int32) (M : Mm) : Option (Int32 × Mm) := if s0 = s1 then
    bnd (m_L_print M) fun _ M3 => nm (dec M3) fun r2 =>
    if (lg_cmp r2 j7) = 0 then
      bnd (m_L_act b4 b5 M3) fun r5 M6 =>
      if r5 = b10 then
        m_L_law_290 N xs κ31 b3 b4 b5 1 M6
      else
        m_L_law_289 N xs κ31 b3 b4 b5 M6
    else
      m_L_law_289 N xs κ31 b3 b4 b5 M3
  else
    m_L_law_289 N xs κ31 b3 b4 b5 M
noncomputable def m_L_law_221 (N : Nat) (xs : Nat → Int32) (κ31 : Int32 → Int32 → Mm → Option (Int32 × Mm)) (b3 : Int32) (b4 : Int32) (b5 : Int32) (b6 : Int32) (j7 : Int64) (b10 : Int32) (s0 : Int32) (M : Mm) : Option (Int32 × Mm) := if s0 = 0 then
    m_L_law_291 N xs κ31 s0 b3 b4 b5 M
  else
    if b3 ≤ 7 then
      m_L_law_291 N xs κ31 s0 b3 b4 b5 M
    else
      bnd (m_L_low (b5 >>> (5 &&& 31)) 4 M00) fun r3 _ =>
      if r3 = 0 then
        bnd (m_X5_undo M) fun r5 M6 =>
        if 5 ≤ b6 then
          m_L_law_259 N xs κ31 b3 b4 b5 j7 b10 r5 4 M6
        else
          m_L_law_259 N xs κ31 b3 b4 b5 j7 b10 r5 b6 M6
      else
        m_L_law_291 N xs κ31 s0 b3 b4 b5 M
noncomputable def m_L_law_213 (N : Nat) (xs : Nat → Int32) (κ31 : Int32 → Int32 → Mm → Option (Int32 × Mm)) (b3 : Int32) (b4 : Int32) (b5 : Int32) (b6 : Int32) (j7 : Int64) (b10 : Int32) (s0 : Int32) (s1 : Int32) (M : Mm) : Option (Int32 × Mm) := if s0 = s1 then
    m_L_law_221 N xs κ31 b3 b4 b5 b6 j7 b10 1 M
  else
    m_L_law_221 N xs κ31 b3 b4 b5 b6 j7 b10 0 M
noncomputable def m_L_law_193 (N : Nat) (xs : Nat → Int32) (κ31 : Int32 → Int32 → Mm → Option (Int32 × Mm)) (b3 : Int32) (b4 : Int32) (b5 : Int32) (b6 : Int32) (j7 : Int64) (b10 : Int32) (M : Mm) : Option (Int32 × Mm) := bnd (m_X5_count 10 M) fun r1 M2 =>
  if 5 ≤ b6 then
    m_L_law_213 N xs κ31 b3 b4 b5 b6 j7 b10 r1 5 M2
  else
    m_L_law_213 N xs κ31 b3 b4 b5 b6 j7 b10 r1 (b6 + 1) M2
noncomputable def m_L_law_189 (N : Nat) (xs : Nat → Int32) (κ31 : Int32 → Int32 → Mm → Option (Int32 × Mm)) (b3 : Int32) (b4 : Int32) (b5 : Int32) (s0 : Int32) (M : Mm) : Option (Int32 × Mm) := m_L_law_291 N xs κ31 s0 b3 b4 b5 M
noncomputable def m_L_law_188 (N : Nat) (xs : Nat → Int32) (κ31 : Int32 → Int32 → Mm → Option (Int32 × Mm)) (b3 : Int32) (b4 : Int32) (b5 : Int32) (M : Mm) : Option (Int32 × Mm) := m_L_law_189 N xs κ31 b3 b4 b5 0 M
noncomputable def m_L_law_163 (N : Nat) (xs : Nat → Int32) (κ31 : Int32 → Int32 → Mm → Option (Int32 × Mm)) (b3 : Int32) (b4 : Int32) (b5 : Int32) (b6 : Int32) (j7 : Int64) (M : Mm) : Option (Int32 × Mm) := bnd (m_X5_count 10 M) fun r1 M2 =>
  if r1 = b6 then
    bnd (m_L_print M2) fun _ M5 => nm (dec M5) fun r4 =>
    if (lg_cmp r4 j7) = 0 then
      m_L_law_189 N xs κ31 b3 b4 b5 1 M5
    else
      m_L_law_188 N xs κ31 b3 b4 b5 M5
  else
    m_L_law_188 N xs κ31 b3 b4 b5 M2
noncomputable def m_L_law_144 (N : Nat) (xs : Nat → Int32) (κ31 : Int32 → Int32 → Mm → Option (Int32 × Mm)) (b3 : Int32) (b4 : Int32) (b5 : Int32) (b6 : Int32) (j7 : Int64) (b9 : Int32) (s0 : Int32) (M : Mm) : Option (Int32 × Mm) := if 0 ≤ s0 then
    m_L_law_193 N xs κ31 b3 b4 b5 b6 j7 s0 M
  else
    if b9 = 0 then
      m_L_law_163 N xs κ31 b3 b4 b5 b6 j7 M
    else
      if s0 = (-5) then
        m_L_law_193 N xs κ31 b3 b4 b5 b6 j7 s0 M
      else
        m_L_law_163 N xs κ31 b3 b4 b5 b6 j7 M
noncomputable def m_L_law_109 (N : Nat) (xs : Nat → Int32) (κ31 : Int32 → Int32 → Mm → Option (Int32 × Mm)) (b3 : Int32) (b4 : Int32) (b5 : Int32) (b6 : Int32) (j7 : Int64) (s0 : Int32) (M : Mm) : Option (Int32 × Mm) := if 8 ≤ b3 then
    bnd (m_L_act b4 b5 M) fun r2 M3 =>
    m_L_law_144 N xs κ31 b3 b4 b5 b6 j7 s0 r2 M3
  else
    gd (!decide ((4 : Int32) = 0)) <|
    bnd (m_L_low b5 9 M00) fun r4 _ =>
    bnd (m_X5_thread (b3 - b3 / 4 * 4) (1 + r4) M) fun r5 M6 =>
    m_L_law_144 N xs κ31 b3 b4 b5 b6 j7 s0 r5 M6
noncomputable def m_L_law_108 (N : Nat) (xs : Nat → Int32) (κ31 : Int32 → Int32 → Mm → Option (Int32 × Mm)) (b3 : Int32) (b4 : Int32) (b5 : Int32) (b6 : Int32) (j7 : Int64) (M : Mm) : Option (Int32 × Mm) := m_L_law_109 N xs κ31 b3 b4 b5 b6 j7 0 M
noncomputable def m_L_law_104 (N : Nat) (xs : Nat → Int32) (κ31 : Int32 → Int32 → Mm → Option (Int32 × Mm)) (b3 : Int32) (b4 : Int32) (b5 : Int32) (b6 : Int32) (j7 : Int64) (M : Mm) : Option (Int32 × Mm) := m_L_law_109 N xs κ31 b3 b4 b5 b6 j7 1 M
noncomputable def m_L_law_31 (N : Nat) (xs : Nat → Int32) : Nat → Int32 → Int32 → Mm → Option (Int32 × Mm)
  | 0, _, _, _ => none
  | n + 1, b2, b3, M => if 48 ≤ b3 then
    m_L_law_409 N xs b2 M
  else
    if b2 = 0 then
      m_L_law_409 N xs b2 M
    else
      gd (decide (0 ≤ (2 * b3))) <| nm (cellV N xs (2 * b3)) fun r3 =>
      gd (decide (0 ≤ ((2 * b3) + 1))) <| nm (cellV N xs ((2 * b3) + 1)) fun r4 =>
      bnd (m_X5_count 10 M) fun r5 M6 =>
      bnd (m_L_print M6) fun _ M8 => nm (dec M8) fun r7 =>
      if b3 ≤ 7 then
        m_L_law_108 N xs (m_L_law_31 N xs n) b3 r3 r4 r5 r7 M8
      else
        bnd (m_L_low r3 17 M00) fun r10 _ =>
        if r10 = 3 then
          m_L_law_104 N xs (m_L_law_31 N xs n) b3 r3 r4 r5 r7 M8
        else
          bnd (m_L_low r3 17 M00) fun r12 _ =>
          if r12 = 8 then
            m_L_law_104 N xs (m_L_law_31 N xs n) b3 r3 r4 r5 r7 M8
          else
            m_L_law_108 N xs (m_L_law_31 N xs n) b3 r3 r4 r5 r7 M8
noncomputable def m_L_law_28 (N : Nat) (xs : Nat → Int32) (s0 : Int32) (M : Mm) : Option (Int32 × Mm) := m_L_law_31 N xs fu s0 0 M
noncomputable def m_L_law_27 (N : Nat) (xs : Nat → Int32) (M : Mm) : Option (Int32 × Mm) := m_L_law_28 N xs 0 M
noncomputable def m_L_law_8 (N : Nat) (xs : Nat → Int32) (M : Mm) : Option (Int32 × Mm) := bnd (m_L_hangs M) fun r1 M2 =>
  if r1 = 0 then
    m_L_law_27 N xs M2
  else
    bnd (m_L_rounds 5 M2) fun r4 M5 =>
    if r4 = 0 then
      m_L_law_27 N xs M5
    else
      m_L_law_28 N xs 1 M5
