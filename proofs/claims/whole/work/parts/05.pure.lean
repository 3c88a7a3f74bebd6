def u_ush (x y : Int32) : Int32 := (x.toUInt32 >>> (y.toUInt32 &&& Int32.toUInt32 31)).toInt32
def u_lush (x : Int64) (y : Int32) : Int64 := (x.toUInt64 >>> (y.toInt64.toUInt64 &&& Int64.toUInt64 63)).toInt64
def u_lshl (x : Int64) (y : Int32) : Int64 := x <<< (y.toInt64 &&& 63)
def u_lshr (x : Int64) (y : Int32) : Int64 := x >>> (y.toInt64 &&& 63)
def u_rem (x y : Int32) : Int32 := x - x / y * y
def numL : Nat → Int64 := fun k => match k with
  | 0 => 183251937962
  | 1 => 329853488332
  | 2 => 485078659312
  | 3 => 4278255360
  | 4 => 4294901760
  | _ => 545460846592
def numV : Nat → Value := fun k => .long (numL k)
def f_Lg_bitCount (i : Int64) : Int32 :=
  let t1 := (((i - ((u_lush i (1 : Int32)) &&& (6148914691236517205 : Int64))) &&& (3689348814741910323 : Int64)) + ((u_lush (i - ((u_lush i (1 : Int32)) &&& (6148914691236517205 : Int64))) (2 : Int32)) &&& (3689348814741910323 : Int64)))
  let t2 := (((t1 + (u_lush t1 (4 : Int32))) &&& (1085102592571150095 : Int64)) + (u_lush ((t1 + (u_lush t1 (4 : Int32))) &&& (1085102592571150095 : Int64)) (8 : Int32)))
  (((((t2 + (u_lush t2 (16 : Int32))) + (u_lush (t2 + (u_lush t2 (16 : Int32))) (32 : Int32))).toInt32) &&& (127 : Int32)))
def f_In_compare (x : Int32) (y : Int32) : Int32 :=
  if y ≤ x then
    if x = y then
      ((0 : Int32))
    else
      ((1 : Int32))
  else
    ((-1 : Int32))
def f_In_compareUnsigned (x : Int32) (y : Int32) : Int32 :=
  ((f_In_compare (x + (-2147483648 : Int32)) (y + (-2147483648 : Int32))))
def f_Ar_fill (L : Nat → Int64) (v : Int64) : (Nat → Int64) :=
  ((vp_updL (vp_updL (vp_updL (vp_updL L (0 : Int32).toNatClampNeg v) (1 : Int32).toNatClampNeg v) (2 : Int32).toNatClampNeg v) (3 : Int32).toNatClampNeg v))
def f_Co_op (k : Int32) : Int32 :=
  ((k &&& (127 : Int32)))
def f_Co_d (k : Int32) : Int32 :=
  (((u_ush k (7 : Int32)) &&& (31 : Int32)))
def f_Co_f (k : Int32) : Int32 :=
  (((u_ush k (12 : Int32)) &&& (7 : Int32)))
def f_Co_s (k : Int32) : Int32 :=
  (((u_ush k (15 : Int32)) &&& (31 : Int32)))
def f_Co_t (k : Int32) : Int32 :=
  (((u_ush k (20 : Int32)) &&& (31 : Int32)))
def f_Co_g (k : Int32) : Int32 :=
  ((u_ush k (25 : Int32)))
def f_Co_i (k : Int32) : Int32 :=
  ((k >>> ((20 : Int32) &&& 31)))
def f_Co_j (k : Int32) : Int32 :=
  ((((k >>> ((25 : Int32) &&& 31)) <<< ((5 : Int32) &&& 31)) ||| (f_Co_d k)))
def f_Co_k (k : Int32) : Int32 :=
  ((((((k >>> ((31 : Int32) &&& 31)) <<< ((12 : Int32) &&& 31)) ||| (((u_ush k (7 : Int32)) &&& (1 : Int32)) <<< ((11 : Int32) &&& 31))) ||| (((u_ush k (25 : Int32)) &&& (63 : Int32)) <<< ((5 : Int32) &&& 31))) ||| (((u_ush k (8 : Int32)) &&& (15 : Int32)) <<< ((1 : Int32) &&& 31))))
def f_Co_u (k : Int32) : Int32 :=
  ((k &&& (-4096 : Int32)))
def f_Co_l (k : Int32) : Int32 :=
  ((((((k >>> ((31 : Int32) &&& 31)) <<< ((20 : Int32) &&& 31)) ||| (k &&& (1044480 : Int32))) ||| (((u_ush k (20 : Int32)) &&& (1 : Int32)) <<< ((11 : Int32) &&& 31))) ||| (((u_ush k (21 : Int32)) &&& (1023 : Int32)) <<< ((1 : Int32) &&& 31))))
def f_Co_size (k : Int32) : Int32 :=
  (((1 : Int32) <<< ((k &&& (3 : Int32)) &&& 31)))
def f_Co_shiftOf (a : Int32) : Int32 :=
  (((a &&& (3 : Int32)) <<< ((3 : Int32) &&& 31)))
def f_Co_loaded (f : Int32) (v : Int32) : Int32 :=
  if f = (0 : Int32) then
    ((v.toInt8.toInt32))
  else
    if f = (1 : Int32) then
      ((v.toInt16.toInt32))
    else
      if f = (2 : Int32) then
        (v)
      else
        if f = (3 : Int32) then
          (v)
        else
          if f = (4 : Int32) then
            ((v &&& (255 : Int32)))
          else
            if f = (5 : Int32) then
              ((v &&& (65535 : Int32)))
            else
              (v)
def f_Co_isTaken (f : Int32) (a : Int32) (b : Int32) : Int32 :=
  if f = (0 : Int32) then
    if a = b then
      ((1 : Int32))
    else
      ((0 : Int32))
  else
    if f = (1 : Int32) then
      if a = b then
        ((0 : Int32))
      else
        ((1 : Int32))
    else
      if f = (2 : Int32) then
        if (f_In_compareUnsigned a b) < 0 then
          ((0 : Int32))
        else
          ((1 : Int32))
      else
        if f = (3 : Int32) then
          if (f_In_compareUnsigned a b) < 0 then
            ((0 : Int32))
          else
            ((1 : Int32))
        else
          if f = (4 : Int32) then
            if b ≤ a then
              ((0 : Int32))
            else
              ((1 : Int32))
          else
            if f = (5 : Int32) then
              if a < b then
                ((0 : Int32))
              else
                ((1 : Int32))
            else
              if f = (6 : Int32) then
                if 0 ≤ (f_In_compareUnsigned a b) then
                  ((0 : Int32))
                else
                  ((1 : Int32))
              else
                if (f_In_compareUnsigned a b) < 0 then
                  ((0 : Int32))
                else
                  ((1 : Int32))
def f_Co_computed (f : Int32) (o : Int32) (a : Int32) (b : Int32) : Int32 :=
  if f = (0 : Int32) then
    if o = 0 then
      ((a + b))
    else
      ((a - b))
  else
    if f = (1 : Int32) then
      ((a <<< ((b &&& (31 : Int32)) &&& 31)))
    else
      if f = (2 : Int32) then
        if b ≤ a then
          ((0 : Int32))
        else
          ((1 : Int32))
      else
        if f = (3 : Int32) then
          if 0 ≤ (f_In_compareUnsigned a b) then
            ((0 : Int32))
          else
            ((1 : Int32))
        else
          if f = (4 : Int32) then
            ((a ^^^ b))
          else
            if f = (5 : Int32) then
              if o = 0 then
                ((u_ush a (b &&& (31 : Int32))))
              else
                ((a >>> ((b &&& (31 : Int32)) &&& 31)))
            else
              if f = (6 : Int32) then
                ((a ||| b))
              else
                ((a &&& b))
def f_Me_xorOfNumbers (x : Int64) : Int32 :=
  let t1 := ((0 : Int32) ||| (((f_Lg_bitCount (x &&& (numL (0 : Int32).toNatClampNeg))) &&& (1 : Int32)) <<< ((0 : Int32) &&& 31)))
  let t2 := (t1 ||| (((f_Lg_bitCount (x &&& (numL (1 : Int32).toNatClampNeg))) &&& (1 : Int32)) <<< ((1 : Int32) &&& 31)))
  let t3 := (t2 ||| (((f_Lg_bitCount (x &&& (numL (2 : Int32).toNatClampNeg))) &&& (1 : Int32)) <<< ((2 : Int32) &&& 31)))
  let t4 := (t3 ||| (((f_Lg_bitCount (x &&& (numL (3 : Int32).toNatClampNeg))) &&& (1 : Int32)) <<< ((3 : Int32) &&& 31)))
  let t5 := (t4 ||| (((f_Lg_bitCount (x &&& (numL (4 : Int32).toNatClampNeg))) &&& (1 : Int32)) <<< ((4 : Int32) &&& 31)))
  let t6 := (t5 ||| (((f_Lg_bitCount (x &&& (numL (5 : Int32).toNatClampNeg))) &&& (1 : Int32)) <<< ((5 : Int32) &&& 31)))
  (t6)
def f_Me_spread (v : Int32) : Int64 :=
  ((((((u_lshl ((v.toInt64) &&& (1 : Int64)) (3 : Int32)) ||| (u_lshl ((v.toInt64) &&& (14 : Int64)) (4 : Int32))) ||| (u_lshl ((v.toInt64) &&& (2032 : Int64)) (5 : Int32))) ||| (u_lshl ((v.toInt64) &&& (67106816 : Int64)) (6 : Int32))) ||| (u_lshl ((v.toInt64) &&& (4227858432 : Int64)) (7 : Int32))))
def f_Me_gathered (x : Int64) : Int64 :=
  (((((((u_lush x (3 : Int32)) &&& (1 : Int64)) ||| ((u_lush x (4 : Int32)) &&& (14 : Int64))) ||| ((u_lush x (5 : Int32)) &&& (2032 : Int64))) ||| ((u_lush x (6 : Int32)) &&& (67106816 : Int64))) ||| ((u_lush x (7 : Int32)) &&& (4227858432 : Int64))))
def f_Me_putRight (x : Int64) : Int64 :=
  if ((f_Lg_bitCount x) &&& (1 : Int32)) = (1 : Int32) then
    if (39 : Int32) ≤ (f_Me_xorOfNumbers x) then
      ((-2 : Int64))
    else
      ((x ^^^ (u_lshl (1 : Int64) (f_Me_xorOfNumbers x))))
  else
    if (f_Me_xorOfNumbers x) = 0 then
      (x)
    else
      ((-2 : Int64))
def f_Me_keep (K : Nat → Int64) (w : Int32) (v : Int32) : (Nat → Int64) :=
  let t1 := ((f_Me_spread v) ||| (u_lshl (((u_ush (f_Me_xorOfNumbers (f_Me_spread v)) (0 : Int32)).toInt64) &&& (1 : Int64)) ((1 : Int32) <<< ((0 : Int32) &&& 31))))
  let t2 := (t1 ||| (u_lshl (((u_ush (f_Me_xorOfNumbers (f_Me_spread v)) (1 : Int32)).toInt64) &&& (1 : Int64)) ((1 : Int32) <<< ((1 : Int32) &&& 31))))
  let t3 := (t2 ||| (u_lshl (((u_ush (f_Me_xorOfNumbers (f_Me_spread v)) (2 : Int32)).toInt64) &&& (1 : Int64)) ((1 : Int32) <<< ((2 : Int32) &&& 31))))
  let t4 := (t3 ||| (u_lshl (((u_ush (f_Me_xorOfNumbers (f_Me_spread v)) (3 : Int32)).toInt64) &&& (1 : Int64)) ((1 : Int32) <<< ((3 : Int32) &&& 31))))
  let t5 := (t4 ||| (u_lshl (((u_ush (f_Me_xorOfNumbers (f_Me_spread v)) (4 : Int32)).toInt64) &&& (1 : Int64)) ((1 : Int32) <<< ((4 : Int32) &&& 31))))
  let t6 := (t5 ||| (u_lshl (((u_ush (f_Me_xorOfNumbers (f_Me_spread v)) (5 : Int32)).toInt64) &&& (1 : Int64)) ((1 : Int32) <<< ((5 : Int32) &&& 31))))
  ((vp_updL K w.toNatClampNeg (t6 ||| (((f_Lg_bitCount t6) &&& (1 : Int32)).toInt64))))
def f_Me_inspect (K : Nat → Int64) (w : Int32) : Int64 :=
  if (lg_cmp (f_Me_putRight (K w.toNatClampNeg)) (-2 : Int64)) = 0 then
    ((-2 : Int64))
  else
    ((f_Me_gathered (f_Me_putRight (K w.toNatClampNeg))))
def f_Me_mend (K : Nat → Int64) (co : Int32) (w : Int32) : Int64 × (Nat → Int64) × Int32 :=
  if (lg_cmp (f_Me_putRight (K w.toNatClampNeg)) (-2 : Int64)) = 0 then
    ((-2 : Int64), K, co)
  else
    if (lg_cmp (f_Me_putRight (K w.toNatClampNeg)) (K w.toNatClampNeg)) = 0 then
      ((f_Me_gathered (f_Me_putRight (K w.toNatClampNeg))), K, co)
    else
      ((f_Me_gathered (f_Me_putRight (K w.toNatClampNeg))), (vp_updL K w.toNatClampNeg (f_Me_putRight (K w.toNatClampNeg))), (co + (1 : Int32)))
def f_Ca_dropAll (L : Nat → Int64) : (Nat → Int64) :=
  ((f_Ar_fill L (0 : Int64)))
def f_Ca_drop (L : Nat → Int64) (w : Int32) : (Nat → Int64) :=
  ((vp_updL L (w &&& (3 : Int32)).toNatClampNeg (0 : Int64)))
def f_Ca_dropIfWrong (L : Nat → Int64) (rf : Int32) (w : Int32) : (Nat → Int64) × Int32 :=
  if ((f_Lg_bitCount (L (w &&& (3 : Int32)).toNatClampNeg)) &&& (1 : Int32)) = (1 : Int32) then
    ((vp_updL L (w &&& (3 : Int32)).toNatClampNeg (0 : Int64)), (rf + (1 : Int32)))
  else
    (L, rf)
def f_Ca_holds (L : Nat → Int64) (w : Int32) : Int32 :=
  if (lg_cmp ((u_lush (L (w &&& (3 : Int32)).toNatClampNeg) (32 : Int32)) &&& (31 : Int64)) (((16 : Int32) ||| (u_ush w (2 : Int32))).toInt64)) = 0 then
    ((1 : Int32))
  else
    ((0 : Int32))
def f_Ca_held (L : Nat → Int64) (w : Int32) : Int64 :=
  (((L (w &&& (3 : Int32)).toNatClampNeg) &&& (4294967295 : Int64)))
def f_Ca_fill (L : Nat → Int64) (w : Int32) (v : Int32) : (Nat → Int64) :=
  let t1 := (((v.toInt64) &&& (4294967295 : Int64)) ||| (u_lshl (((16 : Int32) ||| (u_ush w (2 : Int32))).toInt64) (32 : Int32)))
  ((vp_updL L (w &&& (3 : Int32)).toNatClampNeg (t1 ||| (u_lshl (((f_Lg_bitCount t1).toInt64) &&& (1 : Int64)) (37 : Int32)))))
def f_Re_agreed (R : Nat → Int32) (r : Int32) : Int32 :=
  (((((R ((3 : Int32) * r).toNatClampNeg) &&& (R (((3 : Int32) * r) + (1 : Int32)).toNatClampNeg)) ||| ((R ((3 : Int32) * r).toNatClampNeg) &&& (R (((3 : Int32) * r) + (2 : Int32)).toNatClampNeg))) ||| ((R (((3 : Int32) * r) + (1 : Int32)).toNatClampNeg) &&& (R (((3 : Int32) * r) + (2 : Int32)).toNatClampNeg))))
def f_Re_put (R : Nat → Int32) (r : Int32) (v : Int32) : (Nat → Int32) :=
  ((upd (upd (upd R ((3 : Int32) * r).toNatClampNeg v) (((3 : Int32) * r) + (1 : Int32)).toNatClampNeg v) (((3 : Int32) * r) + (2 : Int32)).toNatClampNeg v))
def f_Re_operand (R : Nat → Int32) (r : Int32) : Int32 :=
  if r = 0 then
    ((0 : Int32))
  else
    ((f_Re_agreed R r))
def f_Re_putResult (R : Nat → Int32) (r : Int32) (v : Int32) : (Nat → Int32) :=
  if r = 0 then
    (R)
  else
    ((f_Re_put R r v))
def f_Re_vote_l2  : Nat → Nat → (Nat → Int32) → Int32 → (Nat → Int32) × Int32
  | 0, j, R_, vo_ =>
    (R_, vo_)
  | n + 1, j, R_, vo_ =>
    if (R_ ((3 : Int32) * (nI j)).toNatClampNeg) = (R_ (((3 : Int32) * (nI j)) + (1 : Int32)).toNatClampNeg) then
      if (R_ ((3 : Int32) * (nI j)).toNatClampNeg) = (R_ (((3 : Int32) * (nI j)) + (2 : Int32)).toNatClampNeg) then
        f_Re_vote_l2  n (j + 1) R_ vo_
      else
        f_Re_vote_l2  n (j + 1) (f_Re_put R_ (nI j) (f_Re_agreed R_ (nI j))) (vo_ + (1 : Int32))
    else
      f_Re_vote_l2  n (j + 1) (f_Re_put R_ (nI j) (f_Re_agreed R_ (nI j))) (vo_ + (1 : Int32))
def f_Re_vote (R : Nat → Int32) (vo : Int32) : (Nat → Int32) × Int32 :=
  f_Re_vote_l2  32 0 R vo
def f_Fa_append (FC : Nat → Int32) (FP : Nat → Int32) (FB : Nat → Int32) (fs : Int32) (dc : Int32) (dp : Int32) (db : Int32) : (Nat → Int32) × (Nat → Int32) × (Nat → Int32) × Int32 :=
  ((upd FC fs.toNatClampNeg dc), (upd FP fs.toNatClampNeg dp), (upd FB fs.toNatClampNeg db), (fs + (1 : Int32)))
def f_Fa_move (FC : Nat → Int32) (FP : Nat → Int32) (FB : Nat → Int32) (i : Int32) (j : Int32) : (Nat → Int32) × (Nat → Int32) × (Nat → Int32) :=
  ((upd FC j.toNatClampNeg (FC i.toNatClampNeg)), (upd FP j.toNatClampNeg (FP i.toNatClampNeg)), (upd FB j.toNatClampNeg (FB i.toNatClampNeg)))
def f_V_isWord (w : Int32) : Int32 :=
  if w < 0 then
    ((0 : Int32))
  else
    if (64 : Int32) ≤ w then
      ((0 : Int32))
    else
      ((1 : Int32))
def f_V_isRegister (w : Int32) : Int32 :=
  if w < 0 then
    ((0 : Int32))
  else
    if (32 : Int32) ≤ w then
      ((0 : Int32))
    else
      ((1 : Int32))
def f_V_isBit (part : Int32) (bit : Int32) : Int32 :=
  if part < 0 then
    ((0 : Int32))
  else
    if (168 : Int32) ≤ part then
      ((0 : Int32))
    else
      if 0 ≤ bit then
        if (64 : Int32) ≤ part then
          if (160 : Int32) ≤ part then
            if (38 : Int32) ≤ bit then
              ((0 : Int32))
            else
              ((1 : Int32))
          else
            if (32 : Int32) ≤ bit then
              ((0 : Int32))
            else
              ((1 : Int32))
        else
          if (39 : Int32) ≤ bit then
            ((0 : Int32))
          else
            ((1 : Int32))
      else
        ((0 : Int32))
def f_V_isAddress (a : Int32) (z : Int32) : Int32 :=
  if a < 0 then
    ((0 : Int32))
  else
    if (255 : Int32) < a then
      ((0 : Int32))
    else
      if (a &&& (z - (1 : Int32))) = 0 then
        ((1 : Int32))
      else
        ((0 : Int32))
def f_V_invert (K : Nat → Int64) (L1 : Nat → Int64) (L2 : Nat → Int64) (R : Nat → Int32) (part : Int32) (bit : Int32) : (Nat → Int64) × (Nat → Int64) × (Nat → Int64) × (Nat → Int32) :=
  if (64 : Int32) ≤ part then
    if (160 : Int32) ≤ part then
      if (164 : Int32) ≤ part then
        (K, L1, (vp_updL L2 (part - (164 : Int32)).toNatClampNeg ((L2 (part - (164 : Int32)).toNatClampNeg) ^^^ (u_lshl (1 : Int64) bit))), R)
      else
        (K, (vp_updL L1 (part - (160 : Int32)).toNatClampNeg ((L1 (part - (160 : Int32)).toNatClampNeg) ^^^ (u_lshl (1 : Int64) bit))), L2, R)
    else
      (K, L1, L2, (upd R (part - (64 : Int32)).toNatClampNeg ((R (part - (64 : Int32)).toNatClampNeg) ^^^ ((1 : Int32) <<< (bit &&& 31)))))
  else
    ((vp_updL K part.toNatClampNeg ((K part.toNatClampNeg) ^^^ (u_lshl (1 : Int64) bit))), L1, L2, R)
def f_V_write (K : Nat → Int64) (L1 : Nat → Int64) (L2 : Nat → Int64) (w : Int32) (v : Int32) : Int32 × (Nat → Int64) × (Nat → Int64) × (Nat → Int64) :=
  if (f_V_isWord w) = 0 then
    ((0 : Int32), K, L1, L2)
  else
    ((1 : Int32), (f_Me_keep K w v), (f_Ca_dropAll L1), (f_Ca_dropAll L2))
def f_V_set (R : Nat → Int32) (w : Int32) (v : Int32) : Int32 × (Nat → Int32) :=
  if (f_V_isRegister w) = 0 then
    ((0 : Int32), R)
  else
    ((1 : Int32), (f_Re_put R w v))
def f_V_register (R : Nat → Int32) (w : Int32) : Int32 :=
  if (f_V_isRegister w) = 0 then
    ((0 : Int32))
  else
    ((f_Re_agreed R w))
def f_V_look (K : Nat → Int64) (w : Int32) : Int64 :=
  if (f_V_isWord w) = 0 then
    ((-1 : Int64))
  else
    ((f_Me_inspect K w))
def f_V_bits (K : Nat → Int64) (L1 : Nat → Int64) (L2 : Nat → Int64) (R : Nat → Int32) (part : Int32) : Int64 :=
  if part < 0 then
    ((-1 : Int64))
  else
    if part < (168 : Int32) then
      if (64 : Int32) ≤ part then
        if (160 : Int32) ≤ part then
          if (164 : Int32) ≤ part then
            ((L2 (part - (164 : Int32)).toNatClampNeg))
          else
            ((L1 (part - (160 : Int32)).toNatClampNeg))
        else
          ((((R (part - (64 : Int32)).toNatClampNeg).toInt64) &&& (4294967295 : Int64)))
      else
        ((K part.toNatClampNeg))
    else
      ((-1 : Int64))
def f_V_flip (K : Nat → Int64) (L1 : Nat → Int64) (L2 : Nat → Int64) (R : Nat → Int32) (part : Int32) (bit : Int32) : Int32 × (Nat → Int64) × (Nat → Int64) × (Nat → Int64) × (Nat → Int32) :=
  if (f_V_isBit part bit) = 0 then
    ((0 : Int32), K, L1, L2, R)
  else
    let t1 := f_V_invert K L1 L2 R part bit
    ((1 : Int32), t1.1, t1.2.1, t1.2.2.1, t1.2.2.2)
def f_V_plan (FC : Nat → Int32) (FP : Nat → Int32) (FB : Nat → Int32) (fs : Int32) (cy : Int32) (n_ : Int32) (part : Int32) (bit : Int32) : Int32 × (Nat → Int32) × (Nat → Int32) × (Nat → Int32) × Int32 :=
  if n_ < (1 : Int32) then
    ((0 : Int32), FC, FP, FB, fs)
  else
    if (1000 : Int32) < n_ then
      ((0 : Int32), FC, FP, FB, fs)
    else
      if (f_V_isBit part bit) = 0 then
        ((0 : Int32), FC, FP, FB, fs)
      else
        if fs = (16 : Int32) then
          ((0 : Int32), FC, FP, FB, fs)
        else
          let t1 := f_Fa_append FC FP FB fs (cy + n_) part bit
          ((1 : Int32), t1.1, t1.2.1, t1.2.2.1, t1.2.2.2)
def f_V_planned (fs : Int32) : Int32 :=
  (fs)
def f_V_cause (ca : Int32) : Int32 :=
  (ca)
def f_V_value (va : Int32) : Int32 :=
  (va)
def f_V_cycles (cy : Int32) : Int32 :=
  (cy)
def f_V_count (co : Int32) (r1 : Int32) (r2 : Int32) (vo : Int32) (sp : Int32) (de : Int32) (w : Int32) : Int32 :=
  if w = (0 : Int32) then
    (co)
  else
    if w = (1 : Int32) then
      (de)
    else
      if w = (2 : Int32) then
        (vo)
      else
        if w = (3 : Int32) then
          (r1)
        else
          if w = (4 : Int32) then
            (r2)
          else
            if w = (5 : Int32) then
              (sp)
            else
              ((-1 : Int32))
def f_V_stop (ca : Int32) (va : Int32) (x : Int32) (v : Int32) : Int32 × Int32 :=
  (x, v)
def f_V_resume (R : Nat → Int32) (ca : Int32) (va : Int32) (v : Int32) : Int32 × (Nat → Int32) × Int32 × Int32 :=
  if ca = 0 then
    ((0 : Int32), R, ca, va)
  else
    let t1 := f_V_stop ca va (0 : Int32) (0 : Int32)
    ((1 : Int32), (f_Re_put R (0 : Int32) v), t1.1, t1.2)
def f_V_makePlannedFaults_l4 (cy : Int32) : Nat → Nat → Int32 → (Nat → Int64) → (Nat → Int64) → (Nat → Int64) → (Nat → Int32) → (Nat → Int32) → (Nat → Int32) → (Nat → Int32) → (Nat → Int64) × (Nat → Int64) × (Nat → Int64) × (Nat → Int32) × (Nat → Int32) × (Nat → Int32) × (Nat → Int32) × Int32
  | 0, j, le, K_, L1_, L2_, R_, FC_, FP_, FB_ =>
    (K_, L1_, L2_, R_, FC_, FP_, FB_, le)
  | n + 1, j, le, K_, L1_, L2_, R_, FC_, FP_, FB_ =>
    if (FC_ (nI j).toNatClampNeg) = cy then
      let t2 := f_V_invert K_ L1_ L2_ R_ (FP_ (nI j).toNatClampNeg) (FB_ (nI j).toNatClampNeg)
      f_V_makePlannedFaults_l4 cy n (j + 1) le t2.1 t2.2.1 t2.2.2.1 t2.2.2.2 FC_ FP_ FB_
    else
      let t1 := f_Fa_move FC_ FP_ FB_ (nI j) le
      f_V_makePlannedFaults_l4 cy n (j + 1) (le + 1) K_ L1_ L2_ R_ t1.1 t1.2.1 t1.2.2
def f_V_makePlannedFaults (K : Nat → Int64) (L1 : Nat → Int64) (L2 : Nat → Int64) (R : Nat → Int32) (FC : Nat → Int32) (FP : Nat → Int32) (FB : Nat → Int32) (fs : Int32) (cy : Int32) : (Nat → Int64) × (Nat → Int64) × (Nat → Int64) × (Nat → Int32) × (Nat → Int32) × (Nat → Int32) × (Nat → Int32) × Int32 :=
  f_V_makePlannedFaults_l4 cy fs.toNatClampNeg 0 (0 : Int32) K L1 L2 R FC FP FB
def f_V_scrub (K : Nat → Int64) (co : Int32) (sp : Int32) (de : Int32) : (Nat → Int64) × Int32 × Int32 × Int32 :=
  let t1 := f_Me_mend K co sp
  if (lg_cmp t1.1 (-2 : Int64)) = 0 then
    (t1.2.1, t1.2.2, (u_rem (sp + (1 : Int32)) (64 : Int32)), (de + (1 : Int32)))
  else
    (t1.2.1, t1.2.2, (u_rem (sp + (1 : Int32)) (64 : Int32)), de)
def f_V_fetch1 (K : Nat → Int64) (co : Int32) (L1 : Nat → Int64) (r1 : Int32) (w : Int32) : Int64 × (Nat → Int64) × Int32 × (Nat → Int64) × Int32 :=
  let t1 := f_Ca_dropIfWrong L1 r1 w
  if (f_Ca_holds t1.1 w) = 0 then
    let t2 := f_Me_mend K co w
    if (lg_cmp t2.1 (-2 : Int64)) = 0 then
      (t2.1, t2.2.1, t2.2.2, t1.1, t1.2)
    else
      (t2.1, t2.2.1, t2.2.2, (f_Ca_fill t1.1 w (t2.1.toInt32)), t1.2)
  else
    ((f_Ca_held t1.1 w), K, co, t1.1, t1.2)
def f_V_fetch2 (K : Nat → Int64) (co : Int32) (L2 : Nat → Int64) (r2 : Int32) (w : Int32) : Int64 × (Nat → Int64) × Int32 × (Nat → Int64) × Int32 :=
  let t1 := f_Ca_dropIfWrong L2 r2 w
  if (f_Ca_holds t1.1 w) = 0 then
    let t2 := f_Me_mend K co w
    if (lg_cmp t2.1 (-2 : Int64)) = 0 then
      (t2.1, t2.2.1, t2.2.2, t1.1, t1.2)
    else
      (t2.1, t2.2.1, t2.2.2, (f_Ca_fill t1.1 w (t2.1.toInt32)), t1.2)
  else
    ((f_Ca_held t1.1 w), K, co, t1.1, t1.2)
def f_V_save (K : Nat → Int64) (L1 : Nat → Int64) (r1 : Int32) (L2 : Nat → Int64) (r2 : Int32) (w : Int32) (v : Int32) : (Nat → Int64) × (Nat → Int64) × Int32 × (Nat → Int64) × Int32 :=
  let t1 := f_Ca_dropIfWrong L1 r1 w
  let t2 := f_Ca_dropIfWrong L2 r2 w
  if (f_Ca_holds t1.1 w) = 0 then
    if (f_Ca_holds t2.1 w) = 0 then
      ((f_Me_keep K w v), t1.1, t1.2, t2.1, t2.2)
    else
      ((f_Me_keep K w v), t1.1, t1.2, (f_Ca_fill t2.1 w v), t2.2)
  else
    if (f_Ca_holds t2.1 w) = 0 then
      ((f_Me_keep K w v), (f_Ca_drop t1.1 w), t1.2, t2.1, t2.2)
    else
      ((f_Me_keep K w v), (f_Ca_drop t1.1 w), t1.2, (f_Ca_fill t2.1 w v), t2.2)
def f_V_goOn (R : Nat → Int32) (pl : Int32) : (Nat → Int32) :=
  ((f_Re_put R (0 : Int32) (pl + (4 : Int32))))
def f_V_finish (R : Nat → Int32) (pl : Int32) (d : Int32) (v : Int32) : (Nat → Int32) :=
  ((f_V_goOn (f_Re_putResult R d v) pl))
def f_V_jump (R : Nat → Int32) (ca : Int32) (va : Int32) (pl : Int32) (d : Int32) (v : Int32) : (Nat → Int32) × Int32 × Int32 :=
  if (v &&& (3 : Int32)) = 0 then
    ((f_Re_put (f_Re_putResult R d (pl + (4 : Int32))) (0 : Int32) v), ca, va)
  else
    let t1 := f_V_stop ca va (1 : Int32) v
    (R, t1.1, t1.2)
def f_V_jumpByRegister (R : Nat → Int32) (ca : Int32) (va : Int32) (pl : Int32) (k : Int32) : (Nat → Int32) × Int32 × Int32 :=
  if (f_Co_f k) = 0 then
    let t1 := f_V_jump R ca va pl (f_Co_d k) (((f_Re_operand R (f_Co_s k)) + (f_Co_i k)) &&& (-2 : Int32))
    (t1.1, t1.2.1, t1.2.2)
  else
    let t2 := f_V_stop ca va (2 : Int32) k
    (R, t2.1, t2.2)
def f_V_branch (R : Nat → Int32) (ca : Int32) (va : Int32) (pl : Int32) (k : Int32) : (Nat → Int32) × Int32 × Int32 :=
  if (f_Co_f k) = (2 : Int32) then
    let t1 := f_V_stop ca va (2 : Int32) k
    (R, t1.1, t1.2)
  else
    if (f_Co_f k) = (3 : Int32) then
      let t3 := f_V_stop ca va (2 : Int32) k
      (R, t3.1, t3.2)
    else
      if (f_Co_isTaken (f_Co_f k) (f_Re_operand R (f_Co_s k)) (f_Re_operand R (f_Co_t k))) = 0 then
        ((f_V_goOn R pl), ca, va)
      else
        let t2 := f_V_jump R ca va pl (0 : Int32) (pl + (f_Co_k k))
        (t2.1, t2.2.1, t2.2.2)
def f_V_load (K : Nat → Int64) (co : Int32) (L2 : Nat → Int64) (r2 : Int32) (R : Nat → Int32) (ca : Int32) (va : Int32) (pl : Int32) (k : Int32) : (Nat → Int64) × Int32 × (Nat → Int64) × Int32 × (Nat → Int32) × Int32 × Int32 :=
  if (f_Co_f k) = (3 : Int32) then
    let t1 := f_V_stop ca va (2 : Int32) k
    (K, co, L2, r2, R, t1.1, t1.2)
  else
    if (f_Co_f k) ≤ (5 : Int32) then
      if (f_V_isAddress ((f_Re_operand R (f_Co_s k)) + (f_Co_i k)) (f_Co_size (f_Co_f k))) = 0 then
        let t4 := f_V_stop ca va (1 : Int32) ((f_Re_operand R (f_Co_s k)) + (f_Co_i k))
        (K, co, L2, r2, R, t4.1, t4.2)
      else
        let t2 := f_V_fetch2 K co L2 r2 (u_ush ((f_Re_operand R (f_Co_s k)) + (f_Co_i k)) (2 : Int32))
        if (lg_cmp t2.1 (-2 : Int64)) = 0 then
          let t3 := f_V_stop ca va (5 : Int32) (u_ush ((f_Re_operand R (f_Co_s k)) + (f_Co_i k)) (2 : Int32))
          (t2.2.1, t2.2.2.1, t2.2.2.2.1, t2.2.2.2.2, R, t3.1, t3.2)
        else
          (t2.2.1, t2.2.2.1, t2.2.2.2.1, t2.2.2.2.2, (f_V_finish R pl (f_Co_d k) (f_Co_loaded (f_Co_f k) (u_ush (t2.1.toInt32) (f_Co_shiftOf ((f_Re_operand R (f_Co_s k)) + (f_Co_i k)))))), ca, va)
    else
      let t5 := f_V_stop ca va (2 : Int32) k
      (K, co, L2, r2, R, t5.1, t5.2)
def f_V_store (K : Nat → Int64) (co : Int32) (L1 : Nat → Int64) (r1 : Int32) (L2 : Nat → Int64) (r2 : Int32) (R : Nat → Int32) (ca : Int32) (va : Int32) (pl : Int32) (k : Int32) : (Nat → Int64) × Int32 × (Nat → Int64) × Int32 × (Nat → Int64) × Int32 × (Nat → Int32) × Int32 × Int32 :=
  if (f_Co_f k) ≤ (2 : Int32) then
    if (f_V_isAddress ((f_Re_operand R (f_Co_s k)) + (f_Co_j k)) (f_Co_size (f_Co_f k))) = 0 then
      let t6 := f_V_stop ca va (1 : Int32) ((f_Re_operand R (f_Co_s k)) + (f_Co_j k))
      (K, co, L1, r1, L2, r2, R, t6.1, t6.2)
    else
      if (f_Co_f k) = (2 : Int32) then
        let t5 := f_V_save K L1 r1 L2 r2 (u_ush ((f_Re_operand R (f_Co_s k)) + (f_Co_j k)) (2 : Int32)) (f_Re_operand R (f_Co_t k))
        (t5.1, co, t5.2.1, t5.2.2.1, t5.2.2.2.1, t5.2.2.2.2, (f_V_goOn R pl), ca, va)
      else
        let t1 := f_V_fetch2 K co L2 r2 (u_ush ((f_Re_operand R (f_Co_s k)) + (f_Co_j k)) (2 : Int32))
        if (lg_cmp t1.1 (-2 : Int64)) = 0 then
          let t4 := f_V_stop ca va (5 : Int32) (u_ush ((f_Re_operand R (f_Co_s k)) + (f_Co_j k)) (2 : Int32))
          (t1.2.1, t1.2.2.1, L1, r1, t1.2.2.2.1, t1.2.2.2.2, R, t4.1, t4.2)
        else
          if (f_Co_f k) = 0 then
            let t3 := f_V_save t1.2.1 L1 r1 t1.2.2.2.1 t1.2.2.2.2 (u_ush ((f_Re_operand R (f_Co_s k)) + (f_Co_j k)) (2 : Int32)) (((t1.1.toInt32) &&& (((255 : Int32) <<< ((f_Co_shiftOf ((f_Re_operand R (f_Co_s k)) + (f_Co_j k))) &&& 31)) ^^^ (-1 : Int32))) ||| (((f_Re_operand R (f_Co_t k)) <<< ((f_Co_shiftOf ((f_Re_operand R (f_Co_s k)) + (f_Co_j k))) &&& 31)) &&& ((255 : Int32) <<< ((f_Co_shiftOf ((f_Re_operand R (f_Co_s k)) + (f_Co_j k))) &&& 31))))
            (t3.1, t1.2.2.1, t3.2.1, t3.2.2.1, t3.2.2.2.1, t3.2.2.2.2, (f_V_goOn R pl), ca, va)
          else
            let t2 := f_V_save t1.2.1 L1 r1 t1.2.2.2.1 t1.2.2.2.2 (u_ush ((f_Re_operand R (f_Co_s k)) + (f_Co_j k)) (2 : Int32)) (((t1.1.toInt32) &&& (((65535 : Int32) <<< ((f_Co_shiftOf ((f_Re_operand R (f_Co_s k)) + (f_Co_j k))) &&& 31)) ^^^ (-1 : Int32))) ||| (((f_Re_operand R (f_Co_t k)) <<< ((f_Co_shiftOf ((f_Re_operand R (f_Co_s k)) + (f_Co_j k))) &&& 31)) &&& ((65535 : Int32) <<< ((f_Co_shiftOf ((f_Re_operand R (f_Co_s k)) + (f_Co_j k))) &&& 31))))
            (t2.1, t1.2.2.1, t2.2.1, t2.2.2.1, t2.2.2.2.1, t2.2.2.2.2, (f_V_goOn R pl), ca, va)
  else
    let t7 := f_V_stop ca va (2 : Int32) k
    (K, co, L1, r1, L2, r2, R, t7.1, t7.2)
def f_V_computeWithNumber (R : Nat → Int32) (ca : Int32) (va : Int32) (pl : Int32) (k : Int32) : (Nat → Int32) × Int32 × Int32 :=
  if (f_Co_f k) = (5 : Int32) then
    if (f_Co_g k) = (32 : Int32) then
      if (f_Co_f k) = (1 : Int32) then
        if (f_Co_g k) = 0 then
          ((f_V_finish R pl (f_Co_d k) (f_Co_computed (f_Co_f k) (1 : Int32) (f_Re_operand R (f_Co_s k)) (f_Co_i k))), ca, va)
        else
          ((f_V_finish R pl (f_Co_d k) (f_Co_computed (f_Co_f k) (1 : Int32) (f_Re_operand R (f_Co_s k)) (f_Co_i k))), ca, va)
      else
        if (f_Co_g k) = 0 then
          ((f_V_finish R pl (f_Co_d k) (f_Co_computed (f_Co_f k) (1 : Int32) (f_Re_operand R (f_Co_s k)) (f_Co_i k))), ca, va)
        else
          ((f_V_finish R pl (f_Co_d k) (f_Co_computed (f_Co_f k) (1 : Int32) (f_Re_operand R (f_Co_s k)) (f_Co_i k))), ca, va)
    else
      if (f_Co_f k) = (1 : Int32) then
        if (f_Co_g k) = 0 then
          ((f_V_finish R pl (f_Co_d k) (f_Co_computed (f_Co_f k) (0 : Int32) (f_Re_operand R (f_Co_s k)) (f_Co_i k))), ca, va)
        else
          let t2 := f_V_stop ca va (2 : Int32) k
          (R, t2.1, t2.2)
      else
        if (f_Co_g k) = 0 then
          ((f_V_finish R pl (f_Co_d k) (f_Co_computed (f_Co_f k) (0 : Int32) (f_Re_operand R (f_Co_s k)) (f_Co_i k))), ca, va)
        else
          let t3 := f_V_stop ca va (2 : Int32) k
          (R, t3.1, t3.2)
  else
    if (f_Co_f k) = (1 : Int32) then
      if (f_Co_g k) = 0 then
        ((f_V_finish R pl (f_Co_d k) (f_Co_computed (f_Co_f k) (0 : Int32) (f_Re_operand R (f_Co_s k)) (f_Co_i k))), ca, va)
      else
        let t1 := f_V_stop ca va (2 : Int32) k
        (R, t1.1, t1.2)
    else
      ((f_V_finish R pl (f_Co_d k) (f_Co_computed (f_Co_f k) (0 : Int32) (f_Re_operand R (f_Co_s k)) (f_Co_i k))), ca, va)
def f_V_computeWithRegister (R : Nat → Int32) (ca : Int32) (va : Int32) (pl : Int32) (k : Int32) : (Nat → Int32) × Int32 × Int32 :=
  if (f_Co_g k) = (32 : Int32) then
    if (f_Co_f k) = 0 then
      if (f_Co_g k) = 0 then
        ((f_V_finish R pl (f_Co_d k) (f_Co_computed (f_Co_f k) (1 : Int32) (f_Re_operand R (f_Co_s k)) (f_Re_operand R (f_Co_t k)))), ca, va)
      else
        ((f_V_finish R pl (f_Co_d k) (f_Co_computed (f_Co_f k) (1 : Int32) (f_Re_operand R (f_Co_s k)) (f_Re_operand R (f_Co_t k)))), ca, va)
    else
      if (f_Co_f k) = (5 : Int32) then
        if (f_Co_g k) = 0 then
          ((f_V_finish R pl (f_Co_d k) (f_Co_computed (f_Co_f k) (1 : Int32) (f_Re_operand R (f_Co_s k)) (f_Re_operand R (f_Co_t k)))), ca, va)
        else
          ((f_V_finish R pl (f_Co_d k) (f_Co_computed (f_Co_f k) (1 : Int32) (f_Re_operand R (f_Co_s k)) (f_Re_operand R (f_Co_t k)))), ca, va)
      else
        if (f_Co_g k) = 0 then
          ((f_V_finish R pl (f_Co_d k) (f_Co_computed (f_Co_f k) (0 : Int32) (f_Re_operand R (f_Co_s k)) (f_Re_operand R (f_Co_t k)))), ca, va)
        else
          let t2 := f_V_stop ca va (2 : Int32) k
          (R, t2.1, t2.2)
  else
    if (f_Co_g k) = 0 then
      ((f_V_finish R pl (f_Co_d k) (f_Co_computed (f_Co_f k) (0 : Int32) (f_Re_operand R (f_Co_s k)) (f_Re_operand R (f_Co_t k)))), ca, va)
    else
      let t1 := f_V_stop ca va (2 : Int32) k
      (R, t1.1, t1.2)
def f_V_doNothing (R : Nat → Int32) (ca : Int32) (va : Int32) (pl : Int32) (k : Int32) : (Nat → Int32) × Int32 × Int32 :=
  if (f_Co_f k) = 0 then
    ((f_V_goOn R pl), ca, va)
  else
    let t1 := f_V_stop ca va (2 : Int32) k
    (R, t1.1, t1.2)
def f_V_callOrBreak (ca : Int32) (va : Int32) (k : Int32) : Int32 × Int32 :=
  if k = (115 : Int32) then
    let t3 := f_V_stop ca va (3 : Int32) (0 : Int32)
    (t3.1, t3.2)
  else
    if k = (1048691 : Int32) then
      let t2 := f_V_stop ca va (4 : Int32) (0 : Int32)
      (t2.1, t2.2)
    else
      let t1 := f_V_stop ca va (2 : Int32) k
      (t1.1, t1.2)
def f_V_doInstruction (K : Nat → Int64) (co : Int32) (L1 : Nat → Int64) (r1 : Int32) (L2 : Nat → Int64) (r2 : Int32) (R : Nat → Int32) (ca : Int32) (va : Int32) : (Nat → Int64) × Int32 × (Nat → Int64) × Int32 × (Nat → Int64) × Int32 × (Nat → Int32) × Int32 × Int32 :=
  if (f_V_isAddress (f_Re_agreed R (0 : Int32)) (4 : Int32)) = 0 then
    let t12 := f_V_stop ca va (1 : Int32) (f_Re_agreed R (0 : Int32))
    (K, co, L1, r1, L2, r2, R, t12.1, t12.2)
  else
    let t1 := f_V_fetch1 K co L1 r1 (u_ush (f_Re_agreed R (0 : Int32)) (2 : Int32))
    if (lg_cmp t1.1 (-2 : Int64)) = 0 then
      let t11 := f_V_stop ca va (5 : Int32) (u_ush (f_Re_agreed R (0 : Int32)) (2 : Int32))
      (t1.2.1, t1.2.2.1, t1.2.2.2.1, t1.2.2.2.2, L2, r2, R, t11.1, t11.2)
    else
      if (f_Co_op (t1.1.toInt32)) = (3 : Int32) then
        let t2 := f_V_load t1.2.1 t1.2.2.1 L2 r2 R ca va (f_Re_agreed R (0 : Int32)) (t1.1.toInt32)
        (t2.1, t2.2.1, t1.2.2.2.1, t1.2.2.2.2, t2.2.2.1, t2.2.2.2.1, t2.2.2.2.2.1, t2.2.2.2.2.2.1, t2.2.2.2.2.2.2)
      else
        if (f_Co_op (t1.1.toInt32)) = (15 : Int32) then
          let t3 := f_V_doNothing R ca va (f_Re_agreed R (0 : Int32)) (t1.1.toInt32)
          (t1.2.1, t1.2.2.1, t1.2.2.2.1, t1.2.2.2.2, L2, r2, t3.1, t3.2.1, t3.2.2)
        else
          if (f_Co_op (t1.1.toInt32)) = (19 : Int32) then
            let t4 := f_V_computeWithNumber R ca va (f_Re_agreed R (0 : Int32)) (t1.1.toInt32)
            (t1.2.1, t1.2.2.1, t1.2.2.2.1, t1.2.2.2.2, L2, r2, t4.1, t4.2.1, t4.2.2)
          else
            if (f_Co_op (t1.1.toInt32)) = (23 : Int32) then
              (t1.2.1, t1.2.2.1, t1.2.2.2.1, t1.2.2.2.2, L2, r2, (f_V_finish R (f_Re_agreed R (0 : Int32)) (f_Co_d (t1.1.toInt32)) ((f_Re_agreed R (0 : Int32)) + (f_Co_u (t1.1.toInt32)))), ca, va)
            else
              if (f_Co_op (t1.1.toInt32)) = (35 : Int32) then
                let t5 := f_V_store t1.2.1 t1.2.2.1 t1.2.2.2.1 t1.2.2.2.2 L2 r2 R ca va (f_Re_agreed R (0 : Int32)) (t1.1.toInt32)
                (t5.1, t5.2.1, t5.2.2.1, t5.2.2.2.1, t5.2.2.2.2.1, t5.2.2.2.2.2.1, t5.2.2.2.2.2.2.1, t5.2.2.2.2.2.2.2.1, t5.2.2.2.2.2.2.2.2)
              else
                if (f_Co_op (t1.1.toInt32)) = (51 : Int32) then
                  let t6 := f_V_computeWithRegister R ca va (f_Re_agreed R (0 : Int32)) (t1.1.toInt32)
                  (t1.2.1, t1.2.2.1, t1.2.2.2.1, t1.2.2.2.2, L2, r2, t6.1, t6.2.1, t6.2.2)
                else
                  if (f_Co_op (t1.1.toInt32)) = (55 : Int32) then
                    (t1.2.1, t1.2.2.1, t1.2.2.2.1, t1.2.2.2.2, L2, r2, (f_V_finish R (f_Re_agreed R (0 : Int32)) (f_Co_d (t1.1.toInt32)) (f_Co_u (t1.1.toInt32))), ca, va)
                  else
                    if (f_Co_op (t1.1.toInt32)) = (99 : Int32) then
                      let t7 := f_V_branch R ca va (f_Re_agreed R (0 : Int32)) (t1.1.toInt32)
                      (t1.2.1, t1.2.2.1, t1.2.2.2.1, t1.2.2.2.2, L2, r2, t7.1, t7.2.1, t7.2.2)
                    else
                      if (f_Co_op (t1.1.toInt32)) = (103 : Int32) then
                        let t8 := f_V_jumpByRegister R ca va (f_Re_agreed R (0 : Int32)) (t1.1.toInt32)
                        (t1.2.1, t1.2.2.1, t1.2.2.2.1, t1.2.2.2.2, L2, r2, t8.1, t8.2.1, t8.2.2)
                      else
                        if (f_Co_op (t1.1.toInt32)) = (111 : Int32) then
                          let t9 := f_V_jump R ca va (f_Re_agreed R (0 : Int32)) (f_Co_d (t1.1.toInt32)) ((f_Re_agreed R (0 : Int32)) + (f_Co_l (t1.1.toInt32)))
                          (t1.2.1, t1.2.2.1, t1.2.2.2.1, t1.2.2.2.2, L2, r2, t9.1, t9.2.1, t9.2.2)
                        else
                          let t10 := f_V_callOrBreak ca va (t1.1.toInt32)
                          (t1.2.1, t1.2.2.1, t1.2.2.2.1, t1.2.2.2.2, L2, r2, R, t10.1, t10.2)
def f_Mo_outside (v : Int32) (n_ : Int32) : Int32 :=
  if v < 0 then
    ((1 : Int32))
  else
    if v ≤ n_ then
      ((0 : Int32))
    else
      ((1 : Int32))
def f_Mo_isData (k : Int32) : Int32 :=
  if (k &&& (k - (1 : Int32))) = 0 then
    ((0 : Int32))
  else
    ((1 : Int32))
def f_Mo_syndrome_l4 (x : Int64) : Nat → Nat → Int32 → Int32
  | 0, j, sy =>
    (sy)
  | n + 1, j, sy =>
    if (lg_cmp ((u_lshr x (nI j)) &&& (1 : Int64)) (1 : Int64)) = 0 then
      f_Mo_syndrome_l4 x n (j + 1) (sy ^^^ (nI j))
    else
      f_Mo_syndrome_l4 x n (j + 1) sy
def f_Mo_syndrome (x : Int64) : Int32 :=
  f_Mo_syndrome_l4 x 38 1 (0 : Int32)
def f_Mo_isOdd_l4 (x : Int64) : Nat → Nat → Int32 → Int32
  | 0, j, o =>
    (o)
  | n + 1, j, o =>
    if (lg_cmp ((u_lshr x (nI j)) &&& (1 : Int64)) (1 : Int64)) = 0 then
      if o = (1 : Int32) then
        f_Mo_isOdd_l4 x n (j + 1) (0 : Int32)
      else
        f_Mo_isOdd_l4 x n (j + 1) (1 : Int32)
    else
      if o = (0 : Int32) then
        f_Mo_isOdd_l4 x n (j + 1) (0 : Int32)
      else
        f_Mo_isOdd_l4 x n (j + 1) (1 : Int32)
def f_Mo_isOdd (x : Int64) : Int32 :=
  f_Mo_isOdd_l4 x 39 0 (0 : Int32)
def f_Mo_dataOf_l7 (x : Int64) : Nat → Nat → Int32 → Int32 → Int32
  | 0, j, v_, i_ =>
    (v_)
  | n + 1, j, v_, i_ =>
    if (f_Mo_isData (nI j)) = 0 then
      f_Mo_dataOf_l7 x n (j + 1) v_ i_
    else
      if (lg_cmp ((u_lshr x (nI j)) &&& (1 : Int64)) (1 : Int64)) = 0 then
        f_Mo_dataOf_l7 x n (j + 1) (v_ ||| ((1 : Int32) <<< (i_ &&& 31))) (i_ + 1)
      else
        f_Mo_dataOf_l7 x n (j + 1) v_ (i_ + 1)
def f_Mo_dataOf (x : Int64) : Int32 :=
  f_Mo_dataOf_l7 x 36 3 (0 : Int32) (0 : Int32)
def f_Mo_encoded_l60  : Nat → Nat → Int64 → Int32 → Int64
  | 0, j2, b2, sy =>
    if (f_Mo_isOdd b2) = 0 then
      (b2)
    else
      ((b2 ||| (1 : Int64)))
  | n + 1, j2, b2, sy =>
    if ((sy >>> ((nI j2) &&& 31)) &&& (1 : Int32)) = (1 : Int32) then
      f_Mo_encoded_l60  n (j2 + 1) (b2 ||| (u_lshl (1 : Int64) ((1 : Int32) <<< ((nI j2) &&& 31)))) sy
    else
      f_Mo_encoded_l60  n (j2 + 1) b2 sy
def f_Mo_encoded_l7 (v : Int32) : Nat → Nat → Int64 → Int32 → Int64
  | 0, j, b_, i_ =>
    f_Mo_encoded_l60  6 0 b_ (f_Mo_syndrome b_)
  | n + 1, j, b_, i_ =>
    if (f_Mo_isData (nI j)) = 0 then
      f_Mo_encoded_l7 v n (j + 1) b_ i_
    else
      if ((v >>> (i_ &&& 31)) &&& (1 : Int32)) = (1 : Int32) then
        f_Mo_encoded_l7 v n (j + 1) (b_ ||| (u_lshl (1 : Int64) (nI j))) (i_ + 1)
      else
        f_Mo_encoded_l7 v n (j + 1) b_ (i_ + 1)
def f_Mo_encoded (v : Int32) : Int64 :=
  f_Mo_encoded_l7 v 36 3 (0 : Int64) (0 : Int32)
def f_Mo_wrongBit (x : Int64) : Int32 :=
  if (f_Mo_isOdd x) = 0 then
    if (f_Mo_syndrome x) = 0 then
      ((-1 : Int32))
    else
      ((-2 : Int32))
  else
    if (39 : Int32) ≤ (f_Mo_syndrome x) then
      ((-2 : Int32))
    else
      ((f_Mo_syndrome x))
def f_Mo_mend (wg : Nat → Int64) (cn : Nat → Int32) (w : Int32) : Int32 × (Nat → Int64) × (Nat → Int32) :=
  if (f_Mo_wrongBit (wg w.toNatClampNeg)) < 0 then
    if (f_Mo_wrongBit (wg w.toNatClampNeg)) = (-2 : Int32) then
      ((0 : Int32), wg, cn)
    else
      ((1 : Int32), wg, cn)
  else
    if (f_Mo_wrongBit (wg w.toNatClampNeg)) = (-2 : Int32) then
      ((0 : Int32), (vp_updL wg w.toNatClampNeg ((wg w.toNatClampNeg) ^^^ (u_lshl (1 : Int64) (f_Mo_wrongBit (wg w.toNatClampNeg))))), (upd cn (0 : Int32).toNatClampNeg ((cn (0 : Int32).toNatClampNeg) + (1 : Int32))))
    else
      ((1 : Int32), (vp_updL wg w.toNatClampNeg ((wg w.toNatClampNeg) ^^^ (u_lshl (1 : Int64) (f_Mo_wrongBit (wg w.toNatClampNeg))))), (upd cn (0 : Int32).toNatClampNeg ((cn (0 : Int32).toNatClampNeg) + (1 : Int32))))
def f_Mo_keep (wr : Nat → Int32) (wg : Nat → Int64) (w : Int32) (v : Int32) : (Nat → Int32) × (Nat → Int64) :=
  ((upd wr w.toNatClampNeg v), (vp_updL wg w.toNatClampNeg (0 : Int64)))
def f_Mo_line (v : Int32) (g : Int32) : Int64 :=
  let t1 := ((((v.toInt64) &&& (4294967295 : Int64)) ||| (u_lshl (g.toInt64) (32 : Int32))) ||| (68719476736 : Int64))
  if (f_Mo_isOdd t1) = 0 then
    (t1)
  else
    ((t1 ||| (137438953472 : Int64)))
def f_Mo_stop (ca : Int32) (va : Int32) (x : Int32) (v : Int32) : Int32 × Int32 :=
  (x, v)
def f_Mo_holds (li : Nat → Int64) (cn : Nat → Int32) (cc : Int32) (w : Int32) : Int32 × (Nat → Int64) × (Nat → Int32) :=
  if (f_Mo_isOdd (li (((4 : Int32) * cc) + (u_rem w (4 : Int32))).toNatClampNeg)) = 0 then
    if (lg_cmp ((u_lshr (li (((4 : Int32) * cc) + (u_rem w (4 : Int32))).toNatClampNeg) (36 : Int32)) &&& (1 : Int64)) (1 : Int64)) = 0 then
      if (((u_lshr (li (((4 : Int32) * cc) + (u_rem w (4 : Int32))).toNatClampNeg) (32 : Int32)) &&& (15 : Int64)).toInt32) = (w / (4 : Int32)) then
        ((1 : Int32), li, cn)
      else
        ((0 : Int32), li, cn)
    else
      ((0 : Int32), li, cn)
  else
    if (lg_cmp ((u_lshr ((vp_updL li (((4 : Int32) * cc) + (u_rem w (4 : Int32))).toNatClampNeg (0 : Int64)) (((4 : Int32) * cc) + (u_rem w (4 : Int32))).toNatClampNeg) (36 : Int32)) &&& (1 : Int64)) (1 : Int64)) = 0 then
      if (((u_lshr ((vp_updL li (((4 : Int32) * cc) + (u_rem w (4 : Int32))).toNatClampNeg (0 : Int64)) (((4 : Int32) * cc) + (u_rem w (4 : Int32))).toNatClampNeg) (32 : Int32)) &&& (15 : Int64)).toInt32) = (w / (4 : Int32)) then
        ((1 : Int32), (vp_updL li (((4 : Int32) * cc) + (u_rem w (4 : Int32))).toNatClampNeg (0 : Int64)), (upd cn ((3 : Int32) + cc).toNatClampNeg ((cn ((3 : Int32) + cc).toNatClampNeg) + (1 : Int32))))
      else
        ((0 : Int32), (vp_updL li (((4 : Int32) * cc) + (u_rem w (4 : Int32))).toNatClampNeg (0 : Int64)), (upd cn ((3 : Int32) + cc).toNatClampNeg ((cn ((3 : Int32) + cc).toNatClampNeg) + (1 : Int32))))
    else
      ((0 : Int32), (vp_updL li (((4 : Int32) * cc) + (u_rem w (4 : Int32))).toNatClampNeg (0 : Int64)), (upd cn ((3 : Int32) + cc).toNatClampNeg ((cn ((3 : Int32) + cc).toNatClampNeg) + (1 : Int32))))
def f_Mo_fetch (wr : Nat → Int32) (wg : Nat → Int64) (li : Nat → Int64) (ca : Int32) (va : Int32) (cn : Nat → Int32) (go : Int32) (cc : Int32) (w : Int32) : Int32 × (Nat → Int64) × (Nat → Int64) × Int32 × Int32 × (Nat → Int32) × Int32 :=
  let t1 := f_Mo_holds li cn cc w
  if t1.1 = 0 then
    let t2 := f_Mo_mend wg t1.2.2 w
    if t2.1 = 0 then
      let t3 := f_Mo_stop ca va (5 : Int32) w
      ((0 : Int32), t2.2.1, t1.2.1, t3.1, t3.2, t2.2.2, go)
    else
      ((1 : Int32), t2.2.1, (vp_updL t1.2.1 (((4 : Int32) * cc) + (u_rem w (4 : Int32))).toNatClampNeg (f_Mo_line ((wr w.toNatClampNeg) ^^^ (f_Mo_dataOf (t2.2.1 w.toNatClampNeg))) (w / (4 : Int32)))), ca, va, t2.2.2, (((vp_updL t1.2.1 (((4 : Int32) * cc) + (u_rem w (4 : Int32))).toNatClampNeg (f_Mo_line ((wr w.toNatClampNeg) ^^^ (f_Mo_dataOf (t2.2.1 w.toNatClampNeg))) (w / (4 : Int32)))) (((4 : Int32) * cc) + (u_rem w (4 : Int32))).toNatClampNeg).toInt32))
  else
    ((1 : Int32), wg, t1.2.1, ca, va, t1.2.2, ((t1.2.1 (((4 : Int32) * cc) + (u_rem w (4 : Int32))).toNatClampNeg).toInt32))
def f_Mo_save (wr : Nat → Int32) (wg : Nat → Int64) (li : Nat → Int64) (cn : Nat → Int32) (w : Int32) (v : Int32) : (Nat → Int32) × (Nat → Int64) × (Nat → Int64) × (Nat → Int32) :=
  let t1 := f_Mo_keep wr wg w v
  let t2 := f_Mo_holds li cn (0 : Int32) w
  if t2.1 = 0 then
    let t3 := f_Mo_holds t2.2.1 t2.2.2 (1 : Int32) w
    if t3.1 = 0 then
      (t1.1, t1.2, t3.2.1, t3.2.2)
    else
      (t1.1, t1.2, (vp_updL t3.2.1 ((4 : Int32) + (u_rem w (4 : Int32))).toNatClampNeg (f_Mo_line v (w / (4 : Int32)))), t3.2.2)
  else
    let t4 := f_Mo_holds (vp_updL t2.2.1 (u_rem w (4 : Int32)).toNatClampNeg (0 : Int64)) t2.2.2 (1 : Int32) w
    if t4.1 = 0 then
      (t1.1, t1.2, t4.2.1, t4.2.2)
    else
      (t1.1, t1.2, (vp_updL t4.2.1 ((4 : Int32) + (u_rem w (4 : Int32))).toNatClampNeg (f_Mo_line v (w / (4 : Int32)))), t4.2.2)
def f_Mo_two (a : Int32) (b : Int32) (d : Int32) : Int32 :=
  ((((a &&& b) ||| (a &&& d)) ||| (b &&& d)))
def f_Mo_valueOf (ke : Nat → Int32) (ma : Nat → Int32) (r : Int32) : Int32 :=
  (((ke r.toNatClampNeg) ^^^ (f_Mo_two (ma ((3 : Int32) * r).toNatClampNeg) (ma (((3 : Int32) * r) + (1 : Int32)).toNatClampNeg) (ma (((3 : Int32) * r) + (2 : Int32)).toNatClampNeg))))
def f_Mo_operand (ke : Nat → Int32) (ma : Nat → Int32) (r : Int32) : Int32 :=
  if r = 0 then
    ((0 : Int32))
  else
    ((f_Mo_valueOf ke ma r))
def f_Mo_put (ke : Nat → Int32) (ma : Nat → Int32) (r : Int32) (v : Int32) : (Nat → Int32) × (Nat → Int32) :=
  ((upd ke r.toNatClampNeg v), (upd (upd (upd ma (((3 : Int32) * r) + (0 : Int32)).toNatClampNeg (0 : Int32)) (((3 : Int32) * r) + (1 : Int32)).toNatClampNeg (0 : Int32)) (((3 : Int32) * r) + (2 : Int32)).toNatClampNeg (0 : Int32)))
def f_Mo_vote_l2  : Nat → Nat → (Nat → Int32) → (Nat → Int32) → (Nat → Int32) → (Nat → Int32) × (Nat → Int32) × (Nat → Int32)
  | 0, j, ke_, ma_, cn_ =>
    (ke_, ma_, cn_)
  | n + 1, j, ke_, ma_, cn_ =>
    if (ma_ ((3 : Int32) * (nI j)).toNatClampNeg) = (ma_ (((3 : Int32) * (nI j)) + (1 : Int32)).toNatClampNeg) then
      if (ma_ ((3 : Int32) * (nI j)).toNatClampNeg) = (ma_ (((3 : Int32) * (nI j)) + (2 : Int32)).toNatClampNeg) then
        let t3 := f_Mo_put ke_ ma_ (nI j) (f_Mo_valueOf ke_ ma_ (nI j))
        f_Mo_vote_l2  n (j + 1) t3.1 t3.2 (upd cn_ (2 : Int32).toNatClampNeg (cn_ (2 : Int32).toNatClampNeg))
      else
        let t2 := f_Mo_put ke_ ma_ (nI j) (f_Mo_valueOf ke_ ma_ (nI j))
        f_Mo_vote_l2  n (j + 1) t2.1 t2.2 (upd cn_ (2 : Int32).toNatClampNeg ((cn_ (2 : Int32).toNatClampNeg) + (1 : Int32)))
    else
      let t1 := f_Mo_put ke_ ma_ (nI j) (f_Mo_valueOf ke_ ma_ (nI j))
      f_Mo_vote_l2  n (j + 1) t1.1 t1.2 (upd cn_ (2 : Int32).toNatClampNeg ((cn_ (2 : Int32).toNatClampNeg) + (1 : Int32)))
def f_Mo_vote (ke : Nat → Int32) (ma : Nat → Int32) (cn : Nat → Int32) : (Nat → Int32) × (Nat → Int32) × (Nat → Int32) :=
  f_Mo_vote_l2  32 0 ke ma cn
def f_Mo_field (px : Int32) (fr : Int32) (bi : Int32) : Int32 :=
  (((u_ush px fr) &&& (((1 : Int32) <<< (bi &&& 31)) - (1 : Int32))))
def f_Mo_numberJ (px : Int32) : Int32 :=
  ((((px >>> ((25 : Int32) &&& 31)) <<< ((5 : Int32) &&& 31)) ||| (f_Mo_field px (7 : Int32) (5 : Int32))))
def f_Mo_numberK (px : Int32) : Int32 :=
  ((((((px >>> ((31 : Int32) &&& 31)) <<< ((12 : Int32) &&& 31)) ||| ((f_Mo_field px (7 : Int32) (1 : Int32)) <<< ((11 : Int32) &&& 31))) ||| ((f_Mo_field px (25 : Int32) (6 : Int32)) <<< ((5 : Int32) &&& 31))) ||| ((f_Mo_field px (8 : Int32) (4 : Int32)) <<< ((1 : Int32) &&& 31))))
def f_Mo_numberL (px : Int32) : Int32 :=
  ((((((px >>> ((31 : Int32) &&& 31)) <<< ((20 : Int32) &&& 31)) ||| ((f_Mo_field px (12 : Int32) (8 : Int32)) <<< ((12 : Int32) &&& 31))) ||| ((f_Mo_field px (20 : Int32) (1 : Int32)) <<< ((11 : Int32) &&& 31))) ||| ((f_Mo_field px (21 : Int32) (10 : Int32)) <<< ((1 : Int32) &&& 31))))
def f_Mo_give (gi : Int32) (gn : Int32) (v : Int32) : Int32 × Int32 :=
  ((1 : Int32), v)
def f_Mo_go (ca : Int32) (va : Int32) (ne : Int32) (v : Int32) : Int32 × Int32 × Int32 :=
  if (v &&& (3 : Int32)) = 0 then
    (ca, va, v)
  else
    let t1 := f_Mo_stop ca va (1 : Int32) v
    (t1.1, t1.2, v)
def f_Mo_illegal (ca : Int32) (va : Int32) (px : Int32) : Int32 × Int32 :=
  let t1 := f_Mo_stop ca va (2 : Int32) px
  (t1.1, t1.2)
def f_Mo_isLess (a : Int32) (b : Int32) (o : Int32) : Int32 :=
  if o = 0 then
    if b ≤ a then
      if 0 ≤ a then
        if 0 ≤ b then
          ((0 : Int32))
        else
          ((1 : Int32))
      else
        if 0 ≤ b then
          ((1 : Int32))
        else
          ((0 : Int32))
    else
      if 0 ≤ a then
        if 0 ≤ b then
          ((1 : Int32))
        else
          ((0 : Int32))
      else
        if 0 ≤ b then
          ((0 : Int32))
        else
          ((1 : Int32))
  else
    if b ≤ a then
      ((0 : Int32))
    else
      ((1 : Int32))
def f_Mo_branch (ca : Int32) (va : Int32) (pp : Int32) (px : Int32) (ne : Int32) (f : Int32) (a : Int32) (b : Int32) : Int32 × Int32 × Int32 :=
  if (2 : Int32) ≤ f then
    if (6 : Int32) ≤ f then
      if f = (2 : Int32) then
        let t1 := f_Mo_illegal ca va px
        (t1.1, t1.2, ne)
      else
        if f = (3 : Int32) then
          let t4 := f_Mo_illegal ca va px
          (t4.1, t4.2, ne)
        else
          if (u_rem f (2 : Int32)) = (1 : Int32) then
            if (f_Mo_isLess a b (0 : Int32)) = (1 : Int32) then
              (ca, va, ne)
            else
              let t3 := f_Mo_go ca va ne (pp + (f_Mo_numberK px))
              (t3.1, t3.2.1, t3.2.2)
          else
            if (f_Mo_isLess a b (0 : Int32)) = (0 : Int32) then
              (ca, va, ne)
            else
              let t2 := f_Mo_go ca va ne (pp + (f_Mo_numberK px))
              (t2.1, t2.2.1, t2.2.2)
    else
      if f = (2 : Int32) then
        let t5 := f_Mo_illegal ca va px
        (t5.1, t5.2, ne)
      else
        if f = (3 : Int32) then
          let t8 := f_Mo_illegal ca va px
          (t8.1, t8.2, ne)
        else
          if (u_rem f (2 : Int32)) = (1 : Int32) then
            if (f_Mo_isLess a b (1 : Int32)) = (1 : Int32) then
              (ca, va, ne)
            else
              let t7 := f_Mo_go ca va ne (pp + (f_Mo_numberK px))
              (t7.1, t7.2.1, t7.2.2)
          else
            if (f_Mo_isLess a b (1 : Int32)) = (0 : Int32) then
              (ca, va, ne)
            else
              let t6 := f_Mo_go ca va ne (pp + (f_Mo_numberK px))
              (t6.1, t6.2.1, t6.2.2)
  else
    if a = b then
      if f = (2 : Int32) then
        let t12 := f_Mo_illegal ca va px
        (t12.1, t12.2, ne)
      else
        if f = (3 : Int32) then
          let t14 := f_Mo_illegal ca va px
          (t14.1, t14.2, ne)
        else
          if (u_rem f (2 : Int32)) = (1 : Int32) then
            (ca, va, ne)
          else
            let t13 := f_Mo_go ca va ne (pp + (f_Mo_numberK px))
            (t13.1, t13.2.1, t13.2.2)
    else
      if f = (2 : Int32) then
        let t9 := f_Mo_illegal ca va px
        (t9.1, t9.2, ne)
      else
        if f = (3 : Int32) then
          let t11 := f_Mo_illegal ca va px
          (t11.1, t11.2, ne)
        else
          if (u_rem f (2 : Int32)) = (1 : Int32) then
            let t10 := f_Mo_go ca va ne (pp + (f_Mo_numberK px))
            (t10.1, t10.2.1, t10.2.2)
          else
            (ca, va, ne)
def f_Mo_reaches (ca : Int32) (va : Int32) (a : Int32) (z : Int32) : Int32 × Int32 × Int32 :=
  if (u_rem a z) = 0 then
    if (f_Mo_outside a (255 : Int32)) = 0 then
      ((1 : Int32), ca, va)
    else
      let t2 := f_Mo_stop ca va (1 : Int32) a
      ((0 : Int32), t2.1, t2.2)
  else
    let t1 := f_Mo_stop ca va (1 : Int32) a
    ((0 : Int32), t1.1, t1.2)
def f_Mo_load (wr : Nat → Int32) (wg : Nat → Int64) (li : Nat → Int64) (ca : Int32) (va : Int32) (cn : Nat → Int32) (px : Int32) (go : Int32) (gi : Int32) (gn : Int32) (f : Int32) (a : Int32) : (Nat → Int64) × (Nat → Int64) × Int32 × Int32 × (Nat → Int32) × Int32 × Int32 × Int32 :=
  if (u_rem f (4 : Int32)) = 0 then
    if f = (3 : Int32) then
      let t15 := f_Mo_illegal ca va px
      (wg, li, t15.1, t15.2, cn, go, gi, gn)
    else
      if f ≤ (5 : Int32) then
        let t16 := f_Mo_reaches ca va a (1 : Int32)
        if t16.1 = 0 then
          (wg, li, t16.2.1, t16.2.2, cn, go, gi, gn)
        else
          let t17 := f_Mo_fetch wr wg li t16.2.1 t16.2.2 cn go (1 : Int32) (a / (4 : Int32))
          if t17.1 = 0 then
            (t17.2.1, t17.2.2.1, t17.2.2.2.1, t17.2.2.2.2.1, t17.2.2.2.2.2.1, t17.2.2.2.2.2.2, gi, gn)
          else
            let t18 := ((t17.2.2.2.2.2.2 >>> (((8 : Int32) * (u_rem a (4 : Int32))) &&& 31)) <<< (((32 : Int32) - ((8 : Int32) * (1 : Int32))) &&& 31))
            if (4 : Int32) ≤ f then
              let t19 := f_Mo_give gi gn (u_ush t18 ((32 : Int32) - ((8 : Int32) * (1 : Int32))))
              (t17.2.1, t17.2.2.1, t17.2.2.2.1, t17.2.2.2.2.1, t17.2.2.2.2.2.1, t17.2.2.2.2.2.2, t19.1, t19.2)
            else
              let t20 := f_Mo_give gi gn (t18 >>> (((32 : Int32) - ((8 : Int32) * (1 : Int32))) &&& 31))
              (t17.2.1, t17.2.2.1, t17.2.2.2.1, t17.2.2.2.2.1, t17.2.2.2.2.2.1, t17.2.2.2.2.2.2, t20.1, t20.2)
      else
        let t21 := f_Mo_illegal ca va px
        (wg, li, t21.1, t21.2, cn, go, gi, gn)
  else
    if (u_rem f (4 : Int32)) = (1 : Int32) then
      if f = (3 : Int32) then
        let t8 := f_Mo_illegal ca va px
        (wg, li, t8.1, t8.2, cn, go, gi, gn)
      else
        if f ≤ (5 : Int32) then
          let t9 := f_Mo_reaches ca va a (2 : Int32)
          if t9.1 = 0 then
            (wg, li, t9.2.1, t9.2.2, cn, go, gi, gn)
          else
            let t10 := f_Mo_fetch wr wg li t9.2.1 t9.2.2 cn go (1 : Int32) (a / (4 : Int32))
            if t10.1 = 0 then
              (t10.2.1, t10.2.2.1, t10.2.2.2.1, t10.2.2.2.2.1, t10.2.2.2.2.2.1, t10.2.2.2.2.2.2, gi, gn)
            else
              let t11 := ((t10.2.2.2.2.2.2 >>> (((8 : Int32) * (u_rem a (4 : Int32))) &&& 31)) <<< (((32 : Int32) - ((8 : Int32) * (2 : Int32))) &&& 31))
              if (4 : Int32) ≤ f then
                let t12 := f_Mo_give gi gn (u_ush t11 ((32 : Int32) - ((8 : Int32) * (2 : Int32))))
                (t10.2.1, t10.2.2.1, t10.2.2.2.1, t10.2.2.2.2.1, t10.2.2.2.2.2.1, t10.2.2.2.2.2.2, t12.1, t12.2)
              else
                let t13 := f_Mo_give gi gn (t11 >>> (((32 : Int32) - ((8 : Int32) * (2 : Int32))) &&& 31))
                (t10.2.1, t10.2.2.1, t10.2.2.2.1, t10.2.2.2.2.1, t10.2.2.2.2.2.1, t10.2.2.2.2.2.2, t13.1, t13.2)
        else
          let t14 := f_Mo_illegal ca va px
          (wg, li, t14.1, t14.2, cn, go, gi, gn)
    else
      if f = (3 : Int32) then
        let t1 := f_Mo_illegal ca va px
        (wg, li, t1.1, t1.2, cn, go, gi, gn)
      else
        if f ≤ (5 : Int32) then
          let t2 := f_Mo_reaches ca va a (4 : Int32)
          if t2.1 = 0 then
            (wg, li, t2.2.1, t2.2.2, cn, go, gi, gn)
          else
            let t3 := f_Mo_fetch wr wg li t2.2.1 t2.2.2 cn go (1 : Int32) (a / (4 : Int32))
            if t3.1 = 0 then
              (t3.2.1, t3.2.2.1, t3.2.2.2.1, t3.2.2.2.2.1, t3.2.2.2.2.2.1, t3.2.2.2.2.2.2, gi, gn)
            else
              let t4 := ((t3.2.2.2.2.2.2 >>> (((8 : Int32) * (u_rem a (4 : Int32))) &&& 31)) <<< (((32 : Int32) - ((8 : Int32) * (4 : Int32))) &&& 31))
              if (4 : Int32) ≤ f then
                let t5 := f_Mo_give gi gn (u_ush t4 ((32 : Int32) - ((8 : Int32) * (4 : Int32))))
                (t3.2.1, t3.2.2.1, t3.2.2.2.1, t3.2.2.2.2.1, t3.2.2.2.2.2.1, t3.2.2.2.2.2.2, t5.1, t5.2)
              else
                let t6 := f_Mo_give gi gn (t4 >>> (((32 : Int32) - ((8 : Int32) * (4 : Int32))) &&& 31))
                (t3.2.1, t3.2.2.1, t3.2.2.2.1, t3.2.2.2.2.1, t3.2.2.2.2.2.1, t3.2.2.2.2.2.2, t6.1, t6.2)
        else
          let t7 := f_Mo_illegal ca va px
          (wg, li, t7.1, t7.2, cn, go, gi, gn)
def f_Mo_store (wr : Nat → Int32) (wg : Nat → Int64) (li : Nat → Int64) (ca : Int32) (va : Int32) (cn : Nat → Int32) (px : Int32) (go : Int32) (f : Int32) (a : Int32) (b : Int32) : (Nat → Int32) × (Nat → Int64) × (Nat → Int64) × Int32 × Int32 × (Nat → Int32) × Int32 :=
  if f ≤ (2 : Int32) then
    let t1 := f_Mo_reaches ca va a ((1 : Int32) <<< (f &&& 31))
    if t1.1 = 0 then
      (wr, wg, li, t1.2.1, t1.2.2, cn, go)
    else
      if f = (2 : Int32) then
        if f = 0 then
          let t4 := f_Mo_save wr wg li cn (a / (4 : Int32)) (((0 : Int32) &&& (((255 : Int32) <<< (((8 : Int32) * (u_rem a (4 : Int32))) &&& 31)) ^^^ (-1 : Int32))) ||| ((b &&& (255 : Int32)) <<< (((8 : Int32) * (u_rem a (4 : Int32))) &&& 31)))
          (t4.1, t4.2.1, t4.2.2.1, t1.2.1, t1.2.2, t4.2.2.2, go)
        else
          if f = (1 : Int32) then
            let t3 := f_Mo_save wr wg li cn (a / (4 : Int32)) (((0 : Int32) &&& (((65535 : Int32) <<< (((8 : Int32) * (u_rem a (4 : Int32))) &&& 31)) ^^^ (-1 : Int32))) ||| ((b &&& (65535 : Int32)) <<< (((8 : Int32) * (u_rem a (4 : Int32))) &&& 31)))
            (t3.1, t3.2.1, t3.2.2.1, t1.2.1, t1.2.2, t3.2.2.2, go)
          else
            let t2 := f_Mo_save wr wg li cn (a / (4 : Int32)) (((0 : Int32) &&& (((-1 : Int32) <<< (((8 : Int32) * (u_rem a (4 : Int32))) &&& 31)) ^^^ (-1 : Int32))) ||| ((b &&& (-1 : Int32)) <<< (((8 : Int32) * (u_rem a (4 : Int32))) &&& 31)))
            (t2.1, t2.2.1, t2.2.2.1, t1.2.1, t1.2.2, t2.2.2.2, go)
      else
        let t5 := f_Mo_fetch wr wg li t1.2.1 t1.2.2 cn go (1 : Int32) (a / (4 : Int32))
        if t5.1 = 0 then
          (wr, t5.2.1, t5.2.2.1, t5.2.2.2.1, t5.2.2.2.2.1, t5.2.2.2.2.2.1, t5.2.2.2.2.2.2)
        else
          if f = 0 then
            let t8 := f_Mo_save wr t5.2.1 t5.2.2.1 t5.2.2.2.2.2.1 (a / (4 : Int32)) ((t5.2.2.2.2.2.2 &&& (((255 : Int32) <<< (((8 : Int32) * (u_rem a (4 : Int32))) &&& 31)) ^^^ (-1 : Int32))) ||| ((b &&& (255 : Int32)) <<< (((8 : Int32) * (u_rem a (4 : Int32))) &&& 31)))
            (t8.1, t8.2.1, t8.2.2.1, t5.2.2.2.1, t5.2.2.2.2.1, t8.2.2.2, t5.2.2.2.2.2.2)
          else
            if f = (1 : Int32) then
              let t7 := f_Mo_save wr t5.2.1 t5.2.2.1 t5.2.2.2.2.2.1 (a / (4 : Int32)) ((t5.2.2.2.2.2.2 &&& (((65535 : Int32) <<< (((8 : Int32) * (u_rem a (4 : Int32))) &&& 31)) ^^^ (-1 : Int32))) ||| ((b &&& (65535 : Int32)) <<< (((8 : Int32) * (u_rem a (4 : Int32))) &&& 31)))
              (t7.1, t7.2.1, t7.2.2.1, t5.2.2.2.1, t5.2.2.2.2.1, t7.2.2.2, t5.2.2.2.2.2.2)
            else
              let t6 := f_Mo_save wr t5.2.1 t5.2.2.1 t5.2.2.2.2.2.1 (a / (4 : Int32)) ((t5.2.2.2.2.2.2 &&& (((-1 : Int32) <<< (((8 : Int32) * (u_rem a (4 : Int32))) &&& 31)) ^^^ (-1 : Int32))) ||| ((b &&& (-1 : Int32)) <<< (((8 : Int32) * (u_rem a (4 : Int32))) &&& 31)))
              (t6.1, t6.2.1, t6.2.2.1, t5.2.2.2.1, t5.2.2.2.2.1, t6.2.2.2, t5.2.2.2.2.2.2)
  else
    let t9 := f_Mo_illegal ca va px
    (wr, wg, li, t9.1, t9.2, cn, go)
def f_Mo_reckoned (f : Int32) (a : Int32) (b : Int32) : Int32 :=
  if f = (0 : Int32) then
    ((a + b))
  else
    if f = (1 : Int32) then
      ((a <<< ((b &&& (31 : Int32)) &&& 31)))
    else
      if f = (2 : Int32) then
        if (f_Mo_isLess a b (1 : Int32)) = 0 then
          ((0 : Int32))
        else
          ((1 : Int32))
      else
        if f = (3 : Int32) then
          if (f_Mo_isLess a b (0 : Int32)) = 0 then
            ((0 : Int32))
          else
            ((1 : Int32))
        else
          if f = (4 : Int32) then
            ((a ^^^ b))
          else
            if f = (5 : Int32) then
              ((u_ush a (b &&& (31 : Int32))))
            else
              if f = (6 : Int32) then
                ((a ||| b))
              else
                ((a &&& b))
def f_Mo_reckon (ca : Int32) (va : Int32) (px : Int32) (gi : Int32) (gn : Int32) (f : Int32) (g : Int32) (a : Int32) (b : Int32) (o : Int32) : Int32 × Int32 × Int32 × Int32 :=
  if g = 0 then
    let t1 := f_Mo_give gi gn (f_Mo_reckoned f a b)
    (ca, va, t1.1, t1.2)
  else
    if o = 0 then
      if g = (32 : Int32) then
        if f = (5 : Int32) then
          let t5 := f_Mo_give gi gn (a >>> ((b &&& (31 : Int32)) &&& 31))
          (ca, va, t5.1, t5.2)
        else
          if f = 0 then
            let t4 := f_Mo_give gi gn (a - b)
            (ca, va, t4.1, t4.2)
          else
            let t3 := f_Mo_illegal ca va px
            (t3.1, t3.2, gi, gn)
      else
        let t2 := f_Mo_illegal ca va px
        (t2.1, t2.2, gi, gn)
    else
      if f = (1 : Int32) then
        if g = (32 : Int32) then
          if f = (5 : Int32) then
            let t9 := f_Mo_give gi gn (a >>> ((b &&& (31 : Int32)) &&& 31))
            (ca, va, t9.1, t9.2)
          else
            if f = 0 then
              let t8 := f_Mo_give gi gn (a - b)
              (ca, va, t8.1, t8.2)
            else
              let t7 := f_Mo_illegal ca va px
              (t7.1, t7.2, gi, gn)
        else
          let t6 := f_Mo_illegal ca va px
          (t6.1, t6.2, gi, gn)
      else
        if f = (5 : Int32) then
          if g = (32 : Int32) then
            let t11 := f_Mo_give gi gn (a >>> ((b &&& (31 : Int32)) &&& 31))
            (ca, va, t11.1, t11.2)
          else
            let t10 := f_Mo_illegal ca va px
            (t10.1, t10.2, gi, gn)
        else
          let t12 := f_Mo_give gi gn (f_Mo_reckoned f a b)
          (ca, va, t12.1, t12.2)
def f_Mo_jump (ca : Int32) (va : Int32) (pp : Int32) (px : Int32) (ne : Int32) (gi : Int32) (gn : Int32) (f : Int32) (v : Int32) : Int32 × Int32 × Int32 × Int32 × Int32 :=
  if f = 0 then
    let t1 := f_Mo_give gi gn (pp + (4 : Int32))
    let t2 := f_Mo_go ca va ne v
    (t2.1, t2.2.1, t2.2.2, t1.1, t1.2)
  else
    let t3 := f_Mo_illegal ca va px
    (t3.1, t3.2, ne, gi, gn)
def f_Mo_rest (ca : Int32) (va : Int32) (px : Int32) (f : Int32) : Int32 × Int32 :=
  if px = (115 : Int32) then
    let t4 := f_Mo_stop ca va (3 : Int32) (0 : Int32)
    (t4.1, t4.2)
  else
    if px = (1048691 : Int32) then
      let t3 := f_Mo_stop ca va (4 : Int32) (0 : Int32)
      (t3.1, t3.2)
    else
      if (f_Mo_field px (0 : Int32) (7 : Int32)) = (15 : Int32) then
        if f = 0 then
          (ca, va)
        else
          let t2 := f_Mo_illegal ca va px
          (t2.1, t2.2)
      else
        let t1 := f_Mo_illegal ca va px
        (t1.1, t1.2)
def f_Mo_execute (wr : Nat → Int32) (wg : Nat → Int64) (ke : Nat → Int32) (ma : Nat → Int32) (li : Nat → Int64) (ca : Int32) (va : Int32) (cn : Nat → Int32) (pp : Int32) (px : Int32) (go : Int32) (ne : Int32) (gi : Int32) (gn : Int32) : (Nat → Int32) × (Nat → Int64) × (Nat → Int64) × Int32 × Int32 × (Nat → Int32) × Int32 × Int32 × Int32 × Int32 :=
  if (f_Mo_field px (0 : Int32) (7 : Int32)) = (3 : Int32) then
    let t1 := f_Mo_load wr wg li ca va cn px go gi gn (f_Mo_field px (12 : Int32) (3 : Int32)) ((f_Mo_operand ke ma (f_Mo_field px (15 : Int32) (5 : Int32))) + (px >>> ((20 : Int32) &&& 31)))
    (wr, t1.1, t1.2.1, t1.2.2.1, t1.2.2.2.1, t1.2.2.2.2.1, t1.2.2.2.2.2.1, ne, t1.2.2.2.2.2.2.1, t1.2.2.2.2.2.2.2)
  else
    if (f_Mo_field px (0 : Int32) (7 : Int32)) = (19 : Int32) then
      if (f_Mo_field px (12 : Int32) (3 : Int32)) = (1 : Int32) then
        let t2 := f_Mo_reckon ca va px gi gn (f_Mo_field px (12 : Int32) (3 : Int32)) (f_Mo_field px (25 : Int32) (7 : Int32)) (f_Mo_operand ke ma (f_Mo_field px (15 : Int32) (5 : Int32))) (f_Mo_field px (20 : Int32) (5 : Int32)) (1 : Int32)
        (wr, wg, li, t2.1, t2.2.1, cn, go, ne, t2.2.2.1, t2.2.2.2)
      else
        if (f_Mo_field px (12 : Int32) (3 : Int32)) = (5 : Int32) then
          let t4 := f_Mo_reckon ca va px gi gn (f_Mo_field px (12 : Int32) (3 : Int32)) (f_Mo_field px (25 : Int32) (7 : Int32)) (f_Mo_operand ke ma (f_Mo_field px (15 : Int32) (5 : Int32))) (f_Mo_field px (20 : Int32) (5 : Int32)) (1 : Int32)
          (wr, wg, li, t4.1, t4.2.1, cn, go, ne, t4.2.2.1, t4.2.2.2)
        else
          let t3 := f_Mo_reckon ca va px gi gn (f_Mo_field px (12 : Int32) (3 : Int32)) (f_Mo_field px (25 : Int32) (7 : Int32)) (f_Mo_operand ke ma (f_Mo_field px (15 : Int32) (5 : Int32))) (px >>> ((20 : Int32) &&& 31)) (1 : Int32)
          (wr, wg, li, t3.1, t3.2.1, cn, go, ne, t3.2.2.1, t3.2.2.2)
    else
      if (f_Mo_field px (0 : Int32) (7 : Int32)) = (23 : Int32) then
        let t5 := f_Mo_give gi gn (pp + (px &&& (-4096 : Int32)))
        (wr, wg, li, ca, va, cn, go, ne, t5.1, t5.2)
      else
        if (f_Mo_field px (0 : Int32) (7 : Int32)) = (35 : Int32) then
          let t6 := f_Mo_store wr wg li ca va cn px go (f_Mo_field px (12 : Int32) (3 : Int32)) ((f_Mo_operand ke ma (f_Mo_field px (15 : Int32) (5 : Int32))) + (f_Mo_numberJ px)) (f_Mo_operand ke ma (f_Mo_field px (20 : Int32) (5 : Int32)))
          (t6.1, t6.2.1, t6.2.2.1, t6.2.2.2.1, t6.2.2.2.2.1, t6.2.2.2.2.2.1, t6.2.2.2.2.2.2, ne, gi, gn)
        else
          if (f_Mo_field px (0 : Int32) (7 : Int32)) = (51 : Int32) then
            let t7 := f_Mo_reckon ca va px gi gn (f_Mo_field px (12 : Int32) (3 : Int32)) (f_Mo_field px (25 : Int32) (7 : Int32)) (f_Mo_operand ke ma (f_Mo_field px (15 : Int32) (5 : Int32))) (f_Mo_operand ke ma (f_Mo_field px (20 : Int32) (5 : Int32))) (0 : Int32)
            (wr, wg, li, t7.1, t7.2.1, cn, go, ne, t7.2.2.1, t7.2.2.2)
          else
            if (f_Mo_field px (0 : Int32) (7 : Int32)) = (55 : Int32) then
              let t8 := f_Mo_give gi gn (px &&& (-4096 : Int32))
              (wr, wg, li, ca, va, cn, go, ne, t8.1, t8.2)
            else
              if (f_Mo_field px (0 : Int32) (7 : Int32)) = (99 : Int32) then
                let t9 := f_Mo_branch ca va pp px ne (f_Mo_field px (12 : Int32) (3 : Int32)) (f_Mo_operand ke ma (f_Mo_field px (15 : Int32) (5 : Int32))) (f_Mo_operand ke ma (f_Mo_field px (20 : Int32) (5 : Int32)))
                (wr, wg, li, t9.1, t9.2.1, cn, go, t9.2.2, gi, gn)
              else
                if (f_Mo_field px (0 : Int32) (7 : Int32)) = (103 : Int32) then
                  let t10 := f_Mo_jump ca va pp px ne gi gn (f_Mo_field px (12 : Int32) (3 : Int32)) (((f_Mo_operand ke ma (f_Mo_field px (15 : Int32) (5 : Int32))) + (px >>> ((20 : Int32) &&& 31))) &&& (-2 : Int32))
                  (wr, wg, li, t10.1, t10.2.1, cn, go, t10.2.2.1, t10.2.2.2.1, t10.2.2.2.2)
                else
                  if (f_Mo_field px (0 : Int32) (7 : Int32)) = (111 : Int32) then
                    let t11 := f_Mo_give gi gn (pp + (4 : Int32))
                    let t12 := f_Mo_go ca va ne (pp + (f_Mo_numberL px))
                    (wr, wg, li, t12.1, t12.2.1, cn, go, t12.2.2, t11.1, t11.2)
                  else
                    let t13 := f_Mo_rest ca va px (f_Mo_field px (12 : Int32) (3 : Int32))
                    (wr, wg, li, t13.1, t13.2, cn, go, ne, gi, gn)
def f_Mo_change (wg : Nat → Int64) (ma : Nat → Int32) (li : Nat → Int64) (part : Int32) (bit : Int32) : (Nat → Int64) × (Nat → Int32) × (Nat → Int64) :=
  if (64 : Int32) ≤ part then
    if (160 : Int32) ≤ part then
      (wg, ma, (vp_updL li (part - (160 : Int32)).toNatClampNeg ((li (part - (160 : Int32)).toNatClampNeg) ^^^ (u_lshl (1 : Int64) bit))))
    else
      (wg, (upd ma (part - (64 : Int32)).toNatClampNeg ((ma (part - (64 : Int32)).toNatClampNeg) ^^^ ((1 : Int32) <<< (bit &&& 31)))), li)
  else
    ((vp_updL wg part.toNatClampNeg ((wg part.toNatClampNeg) ^^^ (u_lshl (1 : Int64) bit))), ma, li)
def f_Mo_makeFaults_l4 (cy : Int32) : Nat → Nat → Int32 → (Nat → Int64) → (Nat → Int32) → (Nat → Int64) → (Nat → Int32) → (Nat → Int64) × (Nat → Int32) × (Nat → Int64) × Int32 × (Nat → Int32)
  | 0, j, le, wg_, ma_, li_, pn_ =>
    (wg_, ma_, li_, le, pn_)
  | n + 1, j, le, wg_, ma_, li_, pn_ =>
    if (pn_ ((3 : Int32) * (nI j)).toNatClampNeg) = cy then
      let t1 := f_Mo_change wg_ ma_ li_ (pn_ (((3 : Int32) * (nI j)) + (1 : Int32)).toNatClampNeg) (pn_ (((3 : Int32) * (nI j)) + (2 : Int32)).toNatClampNeg)
      f_Mo_makeFaults_l4 cy n (j + 1) le t1.1 t1.2.1 t1.2.2 pn_
    else
      f_Mo_makeFaults_l4 cy n (j + 1) (le + 1) wg_ ma_ li_ (upd (upd (upd pn_ (((3 : Int32) * le) + (0 : Int32)).toNatClampNeg (pn_ (((3 : Int32) * (nI j)) + (0 : Int32)).toNatClampNeg)) (((3 : Int32) * le) + (1 : Int32)).toNatClampNeg ((upd pn_ (((3 : Int32) * le) + (0 : Int32)).toNatClampNeg (pn_ (((3 : Int32) * (nI j)) + (0 : Int32)).toNatClampNeg)) (((3 : Int32) * (nI j)) + (1 : Int32)).toNatClampNeg)) (((3 : Int32) * le) + (2 : Int32)).toNatClampNeg ((upd (upd pn_ (((3 : Int32) * le) + (0 : Int32)).toNatClampNeg (pn_ (((3 : Int32) * (nI j)) + (0 : Int32)).toNatClampNeg)) (((3 : Int32) * le) + (1 : Int32)).toNatClampNeg ((upd pn_ (((3 : Int32) * le) + (0 : Int32)).toNatClampNeg (pn_ (((3 : Int32) * (nI j)) + (0 : Int32)).toNatClampNeg)) (((3 : Int32) * (nI j)) + (1 : Int32)).toNatClampNeg)) (((3 : Int32) * (nI j)) + (2 : Int32)).toNatClampNeg))
def f_Mo_makeFaults (wg : Nat → Int64) (ma : Nat → Int32) (li : Nat → Int64) (ps : Int32) (pn : Nat → Int32) (cy : Int32) : (Nat → Int64) × (Nat → Int32) × (Nat → Int64) × Int32 × (Nat → Int32) :=
  f_Mo_makeFaults_l4 cy ps.toNatClampNeg 0 (0 : Int32) wg ma li pn
def f_Mo_scrub (wg : Nat → Int64) (cn : Nat → Int32) : (Nat → Int64) × (Nat → Int32) :=
  let t1 := f_Mo_mend wg cn (cn (5 : Int32).toNatClampNeg)
  if t1.1 = 0 then
    (t1.2.1, (upd (upd t1.2.2 (1 : Int32).toNatClampNeg ((t1.2.2 (1 : Int32).toNatClampNeg) + (1 : Int32))) (5 : Int32).toNatClampNeg (u_rem (((upd t1.2.2 (1 : Int32).toNatClampNeg ((t1.2.2 (1 : Int32).toNatClampNeg) + (1 : Int32))) (5 : Int32).toNatClampNeg) + (1 : Int32)) (64 : Int32))))
  else
    (t1.2.1, (upd t1.2.2 (5 : Int32).toNatClampNeg (u_rem ((t1.2.2 (5 : Int32).toNatClampNeg) + (1 : Int32)) (64 : Int32))))
def f_Mo_resume (ke : Nat → Int32) (ma : Nat → Int32) (ca : Int32) (va : Int32) (v : Int32) : Int32 × (Nat → Int32) × (Nat → Int32) × Int32 × Int32 :=
  if ca = 0 then
    ((0 : Int32), ke, ma, ca, va)
  else
    let t1 := f_Mo_put ke ma (0 : Int32) v
    let t2 := f_Mo_stop ca va (0 : Int32) (0 : Int32)
    ((1 : Int32), t1.1, t1.2, t2.1, t2.2)
def f_Mo_write (wr : Nat → Int32) (wg : Nat → Int64) (li : Nat → Int64) (w : Int32) (v : Int32) : Int32 × (Nat → Int32) × (Nat → Int64) × (Nat → Int64) :=
  if (f_Mo_outside w (63 : Int32)) = 0 then
    let t1 := f_Mo_keep wr wg w v
    ((1 : Int32), t1.1, t1.2, (vp_updL (vp_updL (vp_updL (vp_updL (vp_updL (vp_updL (vp_updL (vp_updL li (0 : Int32).toNatClampNeg (0 : Int64)) (1 : Int32).toNatClampNeg (0 : Int64)) (2 : Int32).toNatClampNeg (0 : Int64)) (3 : Int32).toNatClampNeg (0 : Int64)) (4 : Int32).toNatClampNeg (0 : Int64)) (5 : Int32).toNatClampNeg (0 : Int64)) (6 : Int32).toNatClampNeg (0 : Int64)) (7 : Int32).toNatClampNeg (0 : Int64)))
  else
    ((0 : Int32), wr, wg, li)
def f_Mo_set (ke : Nat → Int32) (ma : Nat → Int32) (w : Int32) (v : Int32) : Int32 × (Nat → Int32) × (Nat → Int32) :=
  if (f_Mo_outside w (31 : Int32)) = 0 then
    let t1 := f_Mo_put ke ma w v
    ((1 : Int32), t1.1, t1.2)
  else
    ((0 : Int32), ke, ma)
def f_Mo_noBit (part : Int32) (bit : Int32) : Int32 :=
  if (f_Mo_outside part (167 : Int32)) = 0 then
    if (64 : Int32) ≤ part then
      if (160 : Int32) ≤ part then
        if (f_Mo_outside bit (37 : Int32)) = 0 then
          ((0 : Int32))
        else
          ((1 : Int32))
      else
        if (f_Mo_outside bit (31 : Int32)) = 0 then
          ((0 : Int32))
        else
          ((1 : Int32))
    else
      if (f_Mo_outside bit (38 : Int32)) = 0 then
        ((0 : Int32))
      else
        ((1 : Int32))
  else
    ((1 : Int32))
def f_Mo_flip (wg : Nat → Int64) (ma : Nat → Int32) (li : Nat → Int64) (part : Int32) (bit : Int32) : Int32 × (Nat → Int64) × (Nat → Int32) × (Nat → Int64) :=
  if (f_Mo_noBit part bit) = 0 then
    let t1 := f_Mo_change wg ma li part bit
    ((1 : Int32), t1.1, t1.2.1, t1.2.2)
  else
    ((0 : Int32), wg, ma, li)
def f_Mo_plan (ps : Int32) (pn : Nat → Int32) (cy : Int32) (n_ : Int32) (part : Int32) (bit : Int32) : Int32 × Int32 × (Nat → Int32) :=
  if n_ < (1 : Int32) then
    ((0 : Int32), ps, pn)
  else
    if (1000 : Int32) < n_ then
      ((0 : Int32), ps, pn)
    else
      if (f_Mo_noBit part bit) = 0 then
        if ps = (16 : Int32) then
          ((0 : Int32), ps, pn)
        else
          ((1 : Int32), (ps + (1 : Int32)), (upd (upd (upd pn ((3 : Int32) * ps).toNatClampNeg (cy + n_)) (((3 : Int32) * ps) + (1 : Int32)).toNatClampNeg part) (((3 : Int32) * ps) + (2 : Int32)).toNatClampNeg bit))
      else
        ((0 : Int32), ps, pn)
def f_Mo_planned (ps : Int32) : Int32 :=
  (ps)
def f_Mo_register (ke : Nat → Int32) (ma : Nat → Int32) (w : Int32) : Int32 :=
  if (f_Mo_outside w (31 : Int32)) = 0 then
    ((f_Mo_valueOf ke ma w))
  else
    ((0 : Int32))
def f_Mo_look (wr : Nat → Int32) (wg : Nat → Int64) (w : Int32) : Int64 :=
  if (f_Mo_outside w (63 : Int32)) = 0 then
    if (f_Mo_wrongBit (wg w.toNatClampNeg)) < 0 then
      if (f_Mo_wrongBit (wg w.toNatClampNeg)) = (-2 : Int32) then
        ((-2 : Int64))
      else
        (((((wr w.toNatClampNeg) ^^^ (f_Mo_dataOf (wg w.toNatClampNeg))).toInt64) &&& (4294967295 : Int64)))
    else
      if (f_Mo_wrongBit (wg w.toNatClampNeg)) = (-2 : Int32) then
        ((-2 : Int64))
      else
        (((((wr w.toNatClampNeg) ^^^ (f_Mo_dataOf ((wg w.toNatClampNeg) ^^^ (u_lshl (1 : Int64) (f_Mo_wrongBit (wg w.toNatClampNeg)))))).toInt64) &&& (4294967295 : Int64)))
  else
    ((-1 : Int64))
def f_Mo_bits (wr : Nat → Int32) (wg : Nat → Int64) (ke : Nat → Int32) (ma : Nat → Int32) (li : Nat → Int64) (part : Int32) : Int64 :=
  if (f_Mo_outside part (167 : Int32)) = 0 then
    if part ≤ (159 : Int32) then
      if (64 : Int32) ≤ part then
        (((((ke ((part - (64 : Int32)) / (3 : Int32)).toNatClampNeg) ^^^ (ma (part - (64 : Int32)).toNatClampNeg)).toInt64) &&& (4294967295 : Int64)))
      else
        (((f_Mo_encoded (wr part.toNatClampNeg)) ^^^ (wg part.toNatClampNeg)))
    else
      ((li (part - (160 : Int32)).toNatClampNeg))
  else
    ((-1 : Int64))
def f_Mo_cause (ca : Int32) : Int32 :=
  (ca)
def f_Mo_value (va : Int32) : Int32 :=
  (va)
def f_Mo_cycles (cy : Int32) : Int32 :=
  (cy)
def f_Mo_count (cn : Nat → Int32) (w : Int32) : Int32 :=
  if (f_Mo_outside w (5 : Int32)) = 0 then
    ((cn w.toNatClampNeg))
  else
    ((-1 : Int32))
def f_Mo_instruct (wr : Nat → Int32) (wg : Nat → Int64) (ke : Nat → Int32) (ma : Nat → Int32) (li : Nat → Int64) (ca : Int32) (va : Int32) (cn : Nat → Int32) (pp : Int32) (px : Int32) (go : Int32) (ne : Int32) (gi : Int32) (gn : Int32) : (Nat → Int32) × (Nat → Int64) × (Nat → Int32) × (Nat → Int32) × (Nat → Int64) × Int32 × Int32 × (Nat → Int32) × Int32 × Int32 × Int32 × Int32 × Int32 × Int32 :=
  if (u_rem (f_Mo_valueOf ke ma (0 : Int32)) (4 : Int32)) = 0 then
    if (f_Mo_outside (f_Mo_valueOf ke ma (0 : Int32)) (255 : Int32)) = 0 then
      let t3 := f_Mo_fetch wr wg li ca va cn go (0 : Int32) ((f_Mo_valueOf ke ma (0 : Int32)) / (4 : Int32))
      if t3.1 = 0 then
        if t3.2.2.2.1 = 0 then
          let t4 := f_Mo_put ke ma (0 : Int32) ((f_Mo_valueOf ke ma (0 : Int32)) + (4 : Int32))
          (wr, t3.2.1, t4.1, t4.2, t3.2.2.1, t3.2.2.2.1, t3.2.2.2.2.1, t3.2.2.2.2.2.1, (f_Mo_valueOf ke ma (0 : Int32)), px, t3.2.2.2.2.2.2, ((f_Mo_valueOf ke ma (0 : Int32)) + (4 : Int32)), (0 : Int32), gn)
        else
          (wr, t3.2.1, ke, ma, t3.2.2.1, t3.2.2.2.1, t3.2.2.2.2.1, t3.2.2.2.2.2.1, (f_Mo_valueOf ke ma (0 : Int32)), px, t3.2.2.2.2.2.2, ((f_Mo_valueOf ke ma (0 : Int32)) + (4 : Int32)), (0 : Int32), gn)
      else
        let t5 := f_Mo_execute wr t3.2.1 ke ma t3.2.2.1 t3.2.2.2.1 t3.2.2.2.2.1 t3.2.2.2.2.2.1 (f_Mo_valueOf ke ma (0 : Int32)) t3.2.2.2.2.2.2 t3.2.2.2.2.2.2 ((f_Mo_valueOf ke ma (0 : Int32)) + (4 : Int32)) (0 : Int32) gn
        if t5.2.2.2.1 = 0 then
          if t5.2.2.2.2.2.2.2.2.1 = 0 then
            let t6 := f_Mo_put ke ma (0 : Int32) t5.2.2.2.2.2.2.2.1
            (t5.1, t5.2.1, t6.1, t6.2, t5.2.2.1, t5.2.2.2.1, t5.2.2.2.2.1, t5.2.2.2.2.2.1, (f_Mo_valueOf ke ma (0 : Int32)), t3.2.2.2.2.2.2, t5.2.2.2.2.2.2.1, t5.2.2.2.2.2.2.2.1, t5.2.2.2.2.2.2.2.2.1, t5.2.2.2.2.2.2.2.2.2)
          else
            if (f_Mo_field t3.2.2.2.2.2.2 (7 : Int32) (5 : Int32)) ≤ 0 then
              let t7 := f_Mo_put ke ma (0 : Int32) t5.2.2.2.2.2.2.2.1
              (t5.1, t5.2.1, t7.1, t7.2, t5.2.2.1, t5.2.2.2.1, t5.2.2.2.2.1, t5.2.2.2.2.2.1, (f_Mo_valueOf ke ma (0 : Int32)), t3.2.2.2.2.2.2, t5.2.2.2.2.2.2.1, t5.2.2.2.2.2.2.2.1, t5.2.2.2.2.2.2.2.2.1, t5.2.2.2.2.2.2.2.2.2)
            else
              let t8 := f_Mo_put ke ma (f_Mo_field t3.2.2.2.2.2.2 (7 : Int32) (5 : Int32)) t5.2.2.2.2.2.2.2.2.2
              let t9 := f_Mo_put t8.1 t8.2 (0 : Int32) t5.2.2.2.2.2.2.2.1
              (t5.1, t5.2.1, t9.1, t9.2, t5.2.2.1, t5.2.2.2.1, t5.2.2.2.2.1, t5.2.2.2.2.2.1, (f_Mo_valueOf ke ma (0 : Int32)), t3.2.2.2.2.2.2, t5.2.2.2.2.2.2.1, t5.2.2.2.2.2.2.2.1, t5.2.2.2.2.2.2.2.2.1, t5.2.2.2.2.2.2.2.2.2)
        else
          (t5.1, t5.2.1, ke, ma, t5.2.2.1, t5.2.2.2.1, t5.2.2.2.2.1, t5.2.2.2.2.2.1, (f_Mo_valueOf ke ma (0 : Int32)), t3.2.2.2.2.2.2, t5.2.2.2.2.2.2.1, t5.2.2.2.2.2.2.2.1, t5.2.2.2.2.2.2.2.2.1, t5.2.2.2.2.2.2.2.2.2)
    else
      let t10 := f_Mo_stop ca va (1 : Int32) (f_Mo_valueOf ke ma (0 : Int32))
      if t10.1 = 0 then
        let t11 := f_Mo_put ke ma (0 : Int32) ((f_Mo_valueOf ke ma (0 : Int32)) + (4 : Int32))
        (wr, wg, t11.1, t11.2, li, t10.1, t10.2, cn, (f_Mo_valueOf ke ma (0 : Int32)), px, go, ((f_Mo_valueOf ke ma (0 : Int32)) + (4 : Int32)), (0 : Int32), gn)
      else
        (wr, wg, ke, ma, li, t10.1, t10.2, cn, (f_Mo_valueOf ke ma (0 : Int32)), px, go, ((f_Mo_valueOf ke ma (0 : Int32)) + (4 : Int32)), (0 : Int32), gn)
  else
    let t1 := f_Mo_stop ca va (1 : Int32) (f_Mo_valueOf ke ma (0 : Int32))
    if t1.1 = 0 then
      let t2 := f_Mo_put ke ma (0 : Int32) ((f_Mo_valueOf ke ma (0 : Int32)) + (4 : Int32))
      (wr, wg, t2.1, t2.2, li, t1.1, t1.2, cn, (f_Mo_valueOf ke ma (0 : Int32)), px, go, ((f_Mo_valueOf ke ma (0 : Int32)) + (4 : Int32)), (0 : Int32), gn)
    else
      (wr, wg, ke, ma, li, t1.1, t1.2, cn, (f_Mo_valueOf ke ma (0 : Int32)), px, go, ((f_Mo_valueOf ke ma (0 : Int32)) + (4 : Int32)), (0 : Int32), gn)
def f_V_run_l15 (ev : Int32) : Nat → Nat → (Nat → Int64) → Int32 → (Nat → Int64) → Int32 → (Nat → Int64) → Int32 → (Nat → Int32) → Int32 → (Nat → Int32) → (Nat → Int32) → (Nat → Int32) → Int32 → Int32 → Int32 → Int32 → Int32 → Int32 → Int32 × (Nat → Int64) × Int32 × (Nat → Int64) × Int32 × (Nat → Int64) × Int32 × (Nat → Int32) × Int32 × (Nat → Int32) × (Nat → Int32) × (Nat → Int32) × Int32 × Int32 × Int32 × Int32 × Int32 × Int32
  | 0, j, K_, co_, L1_, r1_, L2_, r2_, R_, vo_, FC_, FP_, FB_, fs_, cy_, sp_, de_, ca_, va_ =>
    ((nI j), K_, co_, L1_, r1_, L2_, r2_, R_, vo_, FC_, FP_, FB_, fs_, cy_, sp_, de_, ca_, va_)
  | n + 1, j, K_, co_, L1_, r1_, L2_, r2_, R_, vo_, FC_, FP_, FB_, fs_, cy_, sp_, de_, ca_, va_ =>
    if ca_ = 0 then
      let t1 := f_V_makePlannedFaults K_ L1_ L2_ R_ FC_ FP_ FB_ fs_ (cy_ + (1 : Int32))
      let t2 := f_Re_vote t1.2.2.2.1 vo_
      let t3 := f_V_doInstruction t1.1 co_ t1.2.1 r1_ t1.2.2.1 r2_ t2.1 ca_ va_
      if (u_rem (cy_ + (1 : Int32)) ev) = 0 then
        let t4 := f_V_scrub t3.1 t3.2.1 sp_ de_
        f_V_run_l15 ev n (j + 1) t4.1 t4.2.1 t3.2.2.1 t3.2.2.2.1 t3.2.2.2.2.1 t3.2.2.2.2.2.1 t3.2.2.2.2.2.2.1 t2.2 t1.2.2.2.2.1 t1.2.2.2.2.2.1 t1.2.2.2.2.2.2.1 t1.2.2.2.2.2.2.2 (cy_ + (1 : Int32)) t4.2.2.1 t4.2.2.2 t3.2.2.2.2.2.2.2.1 t3.2.2.2.2.2.2.2.2
      else
        f_V_run_l15 ev n (j + 1) t3.1 t3.2.1 t3.2.2.1 t3.2.2.2.1 t3.2.2.2.2.1 t3.2.2.2.2.2.1 t3.2.2.2.2.2.2.1 t2.2 t1.2.2.2.2.1 t1.2.2.2.2.2.1 t1.2.2.2.2.2.2.1 t1.2.2.2.2.2.2.2 (cy_ + (1 : Int32)) sp_ de_ t3.2.2.2.2.2.2.2.1 t3.2.2.2.2.2.2.2.2
    else
      ((nI j), K_, co_, L1_, r1_, L2_, r2_, R_, vo_, FC_, FP_, FB_, fs_, cy_, sp_, de_, ca_, va_)
def f_V_run (ev : Int32) (K : Nat → Int64) (co : Int32) (L1 : Nat → Int64) (r1 : Int32) (L2 : Nat → Int64) (r2 : Int32) (R : Nat → Int32) (vo : Int32) (FC : Nat → Int32) (FP : Nat → Int32) (FB : Nat → Int32) (fs : Int32) (cy : Int32) (sp : Int32) (de : Int32) (ca : Int32) (va : Int32) (n_ : Int32) : Int32 × (Nat → Int64) × Int32 × (Nat → Int64) × Int32 × (Nat → Int64) × Int32 × (Nat → Int32) × Int32 × (Nat → Int32) × (Nat → Int32) × (Nat → Int32) × Int32 × Int32 × Int32 × Int32 × Int32 × Int32 :=
  if n_ < 0 then
    ((-1 : Int32), K, co, L1, r1, L2, r2, R, vo, FC, FP, FB, fs, cy, sp, de, ca, va)
  else
    if n_ ≤ (500 : Int32) then
      f_V_run_l15 ev n_.toNatClampNeg 0 K co L1 r1 L2 r2 R vo FC FP FB fs cy sp de ca va
    else
      ((-1 : Int32), K, co, L1, r1, L2, r2, R, vo, FC, FP, FB, fs, cy, sp, de, ca, va)
def f_Mo_run_l14 (ev : Int32) : Nat → Nat → (Nat → Int32) → (Nat → Int64) → (Nat → Int32) → (Nat → Int32) → (Nat → Int64) → Int32 → (Nat → Int32) → Int32 → Int32 → Int32 → (Nat → Int32) → Int32 → Int32 → Int32 → Int32 → Int32 → Int32 → Int32 × (Nat → Int32) × (Nat → Int64) × (Nat → Int32) × (Nat → Int32) × (Nat → Int64) × Int32 × (Nat → Int32) × Int32 × Int32 × Int32 × (Nat → Int32) × Int32 × Int32 × Int32 × Int32 × Int32 × Int32
  | 0, j, wr_, wg_, ke_, ma_, li_, ps_, pn_, cy_, ca_, va_, cn_, pp_, px_, go_, ne_, gi_, gn_ =>
    ((nI j), wr_, wg_, ke_, ma_, li_, ps_, pn_, cy_, ca_, va_, cn_, pp_, px_, go_, ne_, gi_, gn_)
  | n + 1, j, wr_, wg_, ke_, ma_, li_, ps_, pn_, cy_, ca_, va_, cn_, pp_, px_, go_, ne_, gi_, gn_ =>
    if ca_ = 0 then
      let t1 := f_Mo_makeFaults wg_ ma_ li_ ps_ pn_ (cy_ + (1 : Int32))
      let t2 := f_Mo_vote ke_ t1.2.1 cn_
      let t3 := f_Mo_instruct wr_ t1.1 t2.1 t2.2.1 t1.2.2.1 ca_ va_ t2.2.2 pp_ px_ go_ ne_ gi_ gn_
      if (u_rem (cy_ + (1 : Int32)) ev) = 0 then
        let t4 := f_Mo_scrub t3.2.1 t3.2.2.2.2.2.2.2.1
        f_Mo_run_l14 ev n (j + 1) t3.1 t4.1 t3.2.2.1 t3.2.2.2.1 t3.2.2.2.2.1 t1.2.2.2.1 t1.2.2.2.2 (cy_ + (1 : Int32)) t3.2.2.2.2.2.1 t3.2.2.2.2.2.2.1 t4.2 t3.2.2.2.2.2.2.2.2.1 t3.2.2.2.2.2.2.2.2.2.1 t3.2.2.2.2.2.2.2.2.2.2.1 t3.2.2.2.2.2.2.2.2.2.2.2.1 t3.2.2.2.2.2.2.2.2.2.2.2.2.1 t3.2.2.2.2.2.2.2.2.2.2.2.2.2
      else
        f_Mo_run_l14 ev n (j + 1) t3.1 t3.2.1 t3.2.2.1 t3.2.2.2.1 t3.2.2.2.2.1 t1.2.2.2.1 t1.2.2.2.2 (cy_ + (1 : Int32)) t3.2.2.2.2.2.1 t3.2.2.2.2.2.2.1 t3.2.2.2.2.2.2.2.1 t3.2.2.2.2.2.2.2.2.1 t3.2.2.2.2.2.2.2.2.2.1 t3.2.2.2.2.2.2.2.2.2.2.1 t3.2.2.2.2.2.2.2.2.2.2.2.1 t3.2.2.2.2.2.2.2.2.2.2.2.2.1 t3.2.2.2.2.2.2.2.2.2.2.2.2.2
    else
      ((nI j), wr_, wg_, ke_, ma_, li_, ps_, pn_, cy_, ca_, va_, cn_, pp_, px_, go_, ne_, gi_, gn_)
def f_Mo_run (ev : Int32) (wr : Nat → Int32) (wg : Nat → Int64) (ke : Nat → Int32) (ma : Nat → Int32) (li : Nat → Int64) (ps : Int32) (pn : Nat → Int32) (cy : Int32) (ca : Int32) (va : Int32) (cn : Nat → Int32) (pp : Int32) (px : Int32) (go : Int32) (ne : Int32) (gi : Int32) (gn : Int32) (n_ : Int32) : Int32 × (Nat → Int32) × (Nat → Int64) × (Nat → Int32) × (Nat → Int32) × (Nat → Int64) × Int32 × (Nat → Int32) × Int32 × Int32 × Int32 × (Nat → Int32) × Int32 × Int32 × Int32 × Int32 × Int32 × Int32 :=
  if (f_Mo_outside n_ (500 : Int32)) = 0 then
    f_Mo_run_l14 ev n_.toNatClampNeg 0 wr wg ke ma li ps pn cy ca va cn pp px go ne gi gn
  else
    ((-1 : Int32), wr, wg, ke, ma, li, ps, pn, cy, ca, va, cn, pp, px, go, ne, gi, gn)
