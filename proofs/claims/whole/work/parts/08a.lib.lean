theorem gF_sF (u : Md) (k : Nat) (v : Int32) (j : Nat) : gF (sF u k v) j = if j = k then v else gF u j := by unfold gF sF va_up; rfl
theorem gA_sF (u : Md) (k : Nat) (v : Int32) (j : Nat) : gA (sF u k v) j = gA u j := rfl
theorem gL_sF (u : Md) (k : Nat) (v : Int32) (j : Nat) : gL (sF u k v) j = gL u j := rfl
theorem gB_sF (u : Md) (k : Nat) (v : Int32) (j : Nat) : gB (sF u k v) j = gB u j := rfl
theorem gZ_sF (u : Md) (k : Nat) (v : Int32) (j : Nat) : gZ (sF u k v) j = gZ u j := rfl
theorem gO_sF (u : Md) (k : Nat) (v : Int32) (j : Nat) : gO (sF u k v) j = gO u j := rfl
theorem gX_sF (u : Md) (k : Nat) (v : Int32) (j : Nat) : gX (sF u k v) j = gX u j := rfl
theorem gF_sA (u : Md) (k : Nat) (v : Nat → Int32) (j : Nat) : gF (sA u k v) j = gF u j := rfl
theorem gA_sA (u : Md) (k : Nat) (v : Nat → Int32) (j : Nat) : gA (sA u k v) j = if j = k then v else gA u j := by unfold gA sA va_up; rfl
theorem gL_sA (u : Md) (k : Nat) (v : Nat → Int32) (j : Nat) : gL (sA u k v) j = gL u j := rfl
theorem gB_sA (u : Md) (k : Nat) (v : Nat → Int32) (j : Nat) : gB (sA u k v) j = gB u j := rfl
theorem gZ_sA (u : Md) (k : Nat) (v : Nat → Int32) (j : Nat) : gZ (sA u k v) j = gZ u j := rfl
theorem gO_sA (u : Md) (k : Nat) (v : Nat → Int32) (j : Nat) : gO (sA u k v) j = gO u j := rfl
theorem gX_sA (u : Md) (k : Nat) (v : Nat → Int32) (j : Nat) : gX (sA u k v) j = gX u j := rfl
theorem gF_sL (u : Md) (k : Nat) (v : Nat → Int64) (j : Nat) : gF (sL u k v) j = gF u j := rfl
theorem gA_sL (u : Md) (k : Nat) (v : Nat → Int64) (j : Nat) : gA (sL u k v) j = gA u j := rfl
theorem gL_sL (u : Md) (k : Nat) (v : Nat → Int64) (j : Nat) : gL (sL u k v) j = if j = k then v else gL u j := by unfold gL sL va_up; rfl
theorem gB_sL (u : Md) (k : Nat) (v : Nat → Int64) (j : Nat) : gB (sL u k v) j = gB u j := rfl
theorem gZ_sL (u : Md) (k : Nat) (v : Nat → Int64) (j : Nat) : gZ (sL u k v) j = gZ u j := rfl
theorem gO_sL (u : Md) (k : Nat) (v : Nat → Int64) (j : Nat) : gO (sL u k v) j = gO u j := rfl
theorem gX_sL (u : Md) (k : Nat) (v : Nat → Int64) (j : Nat) : gX (sL u k v) j = gX u j := rfl
theorem gF_sB (u : Md) (k : Nat) (v : Nat → Int8) (j : Nat) : gF (sB u k v) j = gF u j := rfl
theorem gA_sB (u : Md) (k : Nat) (v : Nat → Int8) (j : Nat) : gA (sB u k v) j = gA u j := rfl
theorem gL_sB (u : Md) (k : Nat) (v : Nat → Int8) (j : Nat) : gL (sB u k v) j = gL u j := rfl
theorem gB_sB (u : Md) (k : Nat) (v : Nat → Int8) (j : Nat) : gB (sB u k v) j = if j = k then v else gB u j := by unfold gB sB va_up; rfl
theorem gZ_sB (u : Md) (k : Nat) (v : Nat → Int8) (j : Nat) : gZ (sB u k v) j = gZ u j := rfl
theorem gO_sB (u : Md) (k : Nat) (v : Nat → Int8) (j : Nat) : gO (sB u k v) j = gO u j := rfl
theorem gX_sB (u : Md) (k : Nat) (v : Nat → Int8) (j : Nat) : gX (sB u k v) j = gX u j := rfl
theorem gF_sZ (u : Md) (k : Nat) (v : Nat → Bool) (j : Nat) : gF (sZ u k v) j = gF u j := rfl
theorem gA_sZ (u : Md) (k : Nat) (v : Nat → Bool) (j : Nat) : gA (sZ u k v) j = gA u j := rfl
theorem gL_sZ (u : Md) (k : Nat) (v : Nat → Bool) (j : Nat) : gL (sZ u k v) j = gL u j := rfl
theorem gB_sZ (u : Md) (k : Nat) (v : Nat → Bool) (j : Nat) : gB (sZ u k v) j = gB u j := rfl
theorem gZ_sZ (u : Md) (k : Nat) (v : Nat → Bool) (j : Nat) : gZ (sZ u k v) j = if j = k then v else gZ u j := by unfold gZ sZ va_up; rfl
theorem gO_sZ (u : Md) (k : Nat) (v : Nat → Bool) (j : Nat) : gO (sZ u k v) j = gO u j := rfl
theorem gX_sZ (u : Md) (k : Nat) (v : Nat → Bool) (j : Nat) : gX (sZ u k v) j = gX u j := rfl
theorem gF_sO (u : Md) (k : Nat) (v : Nat → Option Nat) (j : Nat) : gF (sO u k v) j = gF u j := rfl
theorem gA_sO (u : Md) (k : Nat) (v : Nat → Option Nat) (j : Nat) : gA (sO u k v) j = gA u j := rfl
theorem gL_sO (u : Md) (k : Nat) (v : Nat → Option Nat) (j : Nat) : gL (sO u k v) j = gL u j := rfl
theorem gB_sO (u : Md) (k : Nat) (v : Nat → Option Nat) (j : Nat) : gB (sO u k v) j = gB u j := rfl
theorem gZ_sO (u : Md) (k : Nat) (v : Nat → Option Nat) (j : Nat) : gZ (sO u k v) j = gZ u j := rfl
theorem gO_sO (u : Md) (k : Nat) (v : Nat → Option Nat) (j : Nat) : gO (sO u k v) j = if j = k then v else gO u j := by unfold gO sO va_up; rfl
theorem gX_sO (u : Md) (k : Nat) (v : Nat → Option Nat) (j : Nat) : gX (sO u k v) j = gX u j := rfl
theorem gF_sX (u : Md) (k : Nat) (v : Nat) (j : Nat) : gF (sX u k v) j = gF u j := rfl
theorem gA_sX (u : Md) (k : Nat) (v : Nat) (j : Nat) : gA (sX u k v) j = gA u j := rfl
theorem gL_sX (u : Md) (k : Nat) (v : Nat) (j : Nat) : gL (sX u k v) j = gL u j := rfl
theorem gB_sX (u : Md) (k : Nat) (v : Nat) (j : Nat) : gB (sX u k v) j = gB u j := rfl
theorem gZ_sX (u : Md) (k : Nat) (v : Nat) (j : Nat) : gZ (sX u k v) j = gZ u j := rfl
theorem gO_sX (u : Md) (k : Nat) (v : Nat) (j : Nat) : gO (sX u k v) j = gO u j := rfl
theorem gX_sX (u : Md) (k : Nat) (v : Nat) (j : Nat) : gX (sX u k v) j = if j = k then v else gX u j := by unfold gX sX va_up; rfl
theorem gF_tA (u : Md) (k : Nat) (i : Int32) (x : Int32) (j : Nat) : gF (tA u k i x) j = gF u j := rfl
theorem gA_tA (u : Md) (k : Nat) (i : Int32) (x : Int32) (j : Nat) : gA (tA u k i x) j = if j = k then va_up (gA u k) i.toNatClampNeg x else gA u j := by unfold gA tA sA va_up; rfl
theorem gL_tA (u : Md) (k : Nat) (i : Int32) (x : Int32) (j : Nat) : gL (tA u k i x) j = gL u j := rfl
theorem gB_tA (u : Md) (k : Nat) (i : Int32) (x : Int32) (j : Nat) : gB (tA u k i x) j = gB u j := rfl
theorem gZ_tA (u : Md) (k : Nat) (i : Int32) (x : Int32) (j : Nat) : gZ (tA u k i x) j = gZ u j := rfl
theorem gO_tA (u : Md) (k : Nat) (i : Int32) (x : Int32) (j : Nat) : gO (tA u k i x) j = gO u j := rfl
theorem gX_tA (u : Md) (k : Nat) (i : Int32) (x : Int32) (j : Nat) : gX (tA u k i x) j = gX u j := rfl
theorem gF_tL (u : Md) (k : Nat) (i : Int32) (x : Int64) (j : Nat) : gF (tL u k i x) j = gF u j := rfl
theorem gA_tL (u : Md) (k : Nat) (i : Int32) (x : Int64) (j : Nat) : gA (tL u k i x) j = gA u j := rfl
theorem gL_tL (u : Md) (k : Nat) (i : Int32) (x : Int64) (j : Nat) : gL (tL u k i x) j = if j = k then va_up (gL u k) i.toNatClampNeg x else gL u j := by unfold gL tL sL va_up; rfl
theorem gB_tL (u : Md) (k : Nat) (i : Int32) (x : Int64) (j : Nat) : gB (tL u k i x) j = gB u j := rfl
theorem gZ_tL (u : Md) (k : Nat) (i : Int32) (x : Int64) (j : Nat) : gZ (tL u k i x) j = gZ u j := rfl
theorem gO_tL (u : Md) (k : Nat) (i : Int32) (x : Int64) (j : Nat) : gO (tL u k i x) j = gO u j := rfl
theorem gX_tL (u : Md) (k : Nat) (i : Int32) (x : Int64) (j : Nat) : gX (tL u k i x) j = gX u j := rfl
theorem gF_tB (u : Md) (k : Nat) (i : Int32) (x : Int32) (j : Nat) : gF (tB u k i x) j = gF u j := rfl
theorem gA_tB (u : Md) (k : Nat) (i : Int32) (x : Int32) (j : Nat) : gA (tB u k i x) j = gA u j := rfl
theorem gL_tB (u : Md) (k : Nat) (i : Int32) (x : Int32) (j : Nat) : gL (tB u k i x) j = gL u j := rfl
theorem gB_tB (u : Md) (k : Nat) (i : Int32) (x : Int32) (j : Nat) : gB (tB u k i x) j = if j = k then va_up (gB u k) i.toNatClampNeg x.toInt8 else gB u j := by unfold gB tB sB va_up; rfl
theorem gZ_tB (u : Md) (k : Nat) (i : Int32) (x : Int32) (j : Nat) : gZ (tB u k i x) j = gZ u j := rfl
theorem gO_tB (u : Md) (k : Nat) (i : Int32) (x : Int32) (j : Nat) : gO (tB u k i x) j = gO u j := rfl
theorem gX_tB (u : Md) (k : Nat) (i : Int32) (x : Int32) (j : Nat) : gX (tB u k i x) j = gX u j := rfl
theorem gF_tZ (u : Md) (k : Nat) (i : Int32) (x : Int32) (j : Nat) : gF (tZ u k i x) j = gF u j := rfl
theorem gA_tZ (u : Md) (k : Nat) (i : Int32) (x : Int32) (j : Nat) : gA (tZ u k i x) j = gA u j := rfl
theorem gL_tZ (u : Md) (k : Nat) (i : Int32) (x : Int32) (j : Nat) : gL (tZ u k i x) j = gL u j := rfl
theorem gB_tZ (u : Md) (k : Nat) (i : Int32) (x : Int32) (j : Nat) : gB (tZ u k i x) j = gB u j := rfl
theorem gZ_tZ (u : Md) (k : Nat) (i : Int32) (x : Int32) (j : Nat) : gZ (tZ u k i x) j = if j = k then va_up (gZ u k) i.toNatClampNeg (decide (x &&& 1 = 1)) else gZ u j := by unfold gZ tZ sZ va_up; rfl
theorem gO_tZ (u : Md) (k : Nat) (i : Int32) (x : Int32) (j : Nat) : gO (tZ u k i x) j = gO u j := rfl
theorem gX_tZ (u : Md) (k : Nat) (i : Int32) (x : Int32) (j : Nat) : gX (tZ u k i x) j = gX u j := rfl
theorem tl_0 : (0 : Int32).toInt = 0 := rfl
theorem tl_1 : (1 : Int32).toInt = 1 := rfl
theorem tl_2 : (2 : Int32).toInt = 2 := rfl
theorem tl_3 : (3 : Int32).toInt = 3 := rfl
theorem tl_4 : (4 : Int32).toInt = 4 := rfl
theorem tl_5 : (5 : Int32).toInt = 5 := rfl
theorem tl_6 : (6 : Int32).toInt = 6 := rfl
theorem tl_7 : (7 : Int32).toInt = 7 := rfl
theorem tl_8 : (8 : Int32).toInt = 8 := rfl
theorem tl_9 : (9 : Int32).toInt = 9 := rfl
theorem tl_10 : (10 : Int32).toInt = 10 := rfl
theorem tl_11 : (11 : Int32).toInt = 11 := rfl
theorem tl_12 : (12 : Int32).toInt = 12 := rfl
theorem tl_13 : (13 : Int32).toInt = 13 := rfl
theorem tl_15 : (15 : Int32).toInt = 15 := rfl
theorem tl_16 : (16 : Int32).toInt = 16 := rfl
theorem tl_20 : (20 : Int32).toInt = 20 := rfl
theorem tl_24 : (24 : Int32).toInt = 24 := rfl
theorem tl_26 : (26 : Int32).toInt = 26 := rfl
theorem tl_30 : (30 : Int32).toInt = 30 := rfl
theorem tl_32 : (32 : Int32).toInt = 32 := rfl
theorem tl_36 : (36 : Int32).toInt = 36 := rfl
theorem tl_39 : (39 : Int32).toInt = 39 := rfl
theorem tl_40 : (40 : Int32).toInt = 40 := rfl
theorem tl_45 : (45 : Int32).toInt = 45 := rfl
theorem tl_48 : (48 : Int32).toInt = 48 := rfl
theorem tl_50 : (50 : Int32).toInt = 50 := rfl
theorem tl_57 : (57 : Int32).toInt = 57 := rfl
theorem tl_59 : (59 : Int32).toInt = 59 := rfl
theorem tl_60 : (60 : Int32).toInt = 60 := rfl
theorem tl_61 : (61 : Int32).toInt = 61 := rfl
theorem tl_62 : (62 : Int32).toInt = 62 := rfl
theorem tl_64 : (64 : Int32).toInt = 64 := rfl
theorem tl_72 : (72 : Int32).toInt = 72 := rfl
theorem tl_73 : (73 : Int32).toInt = 73 := rfl
theorem tl_80 : (80 : Int32).toInt = 80 := rfl
theorem tl_90 : (90 : Int32).toInt = 90 := rfl
theorem tl_97 : (97 : Int32).toInt = 97 := rfl
theorem tl_99 : (99 : Int32).toInt = 99 := rfl
theorem tl_100 : (100 : Int32).toInt = 100 := rfl
theorem tl_120 : (120 : Int32).toInt = 120 := rfl
theorem tl_122 : (122 : Int32).toInt = 122 := rfl
theorem tl_123 : (123 : Int32).toInt = 123 := rfl
theorem tl_127 : (127 : Int32).toInt = 127 := rfl
theorem tl_128 : (128 : Int32).toInt = 128 := rfl
theorem tl_199 : (199 : Int32).toInt = 199 := rfl
theorem tl_200 : (200 : Int32).toInt = 200 := rfl
theorem tl_255 : (255 : Int32).toInt = 255 := rfl
theorem tl_256 : (256 : Int32).toInt = 256 := rfl
theorem tl_290 : (290 : Int32).toInt = 290 := rfl
theorem tl_399 : (399 : Int32).toInt = 399 := rfl
theorem tl_400 : (400 : Int32).toInt = 400 := rfl
theorem tl_500 : (500 : Int32).toInt = 500 := rfl
theorem tl_512 : (512 : Int32).toInt = 512 := rfl
theorem tl_520 : (520 : Int32).toInt = 520 := rfl
theorem tl_600 : (600 : Int32).toInt = 600 := rfl
theorem tl_999 : (999 : Int32).toInt = 999 := rfl
theorem tl_1000 : (1000 : Int32).toInt = 1000 := rfl
theorem tl_2000 : (2000 : Int32).toInt = 2000 := rfl
theorem tl_9999 : (9999 : Int32).toInt = 9999 := rfl
theorem tl_10000 : (10000 : Int32).toInt = 10000 := rfl
theorem tm_1 : (-1 : Int32).toInt = -1 := rfl
theorem tm_2 : (-2 : Int32).toInt = -2 := rfl
theorem tm_3 : (-3 : Int32).toInt = -3 := rfl
theorem tm_4 : (-4 : Int32).toInt = -4 := rfl
theorem tm_5 : (-5 : Int32).toInt = -5 := rfl
theorem tm_6 : (-6 : Int32).toInt = -6 := rfl
theorem tm_7 : (-7 : Int32).toInt = -7 := rfl
theorem tm_8 : (-8 : Int32).toInt = -8 := rfl
theorem tm_9 : (-9 : Int32).toInt = -9 := rfl
theorem tm_128 : (-128 : Int32).toInt = -128 := rfl
theorem nl_0 : (0 : Int32) = nI 0 := rfl
theorem nl_1 : (1 : Int32) = nI 1 := rfl
theorem nl_2 : (2 : Int32) = nI 2 := rfl
theorem nl_3 : (3 : Int32) = nI 3 := rfl
theorem nl_4 : (4 : Int32) = nI 4 := rfl
theorem nl_5 : (5 : Int32) = nI 5 := rfl
theorem nl_6 : (6 : Int32) = nI 6 := rfl
theorem nl_7 : (7 : Int32) = nI 7 := rfl
theorem nl_8 : (8 : Int32) = nI 8 := rfl
theorem nl_9 : (9 : Int32) = nI 9 := rfl
theorem nl_10 : (10 : Int32) = nI 10 := rfl
theorem nl_11 : (11 : Int32) = nI 11 := rfl
theorem nl_12 : (12 : Int32) = nI 12 := rfl
theorem nl_13 : (13 : Int32) = nI 13 := rfl
theorem nl_15 : (15 : Int32) = nI 15 := rfl
theorem nl_16 : (16 : Int32) = nI 16 := rfl
theorem nl_20 : (20 : Int32) = nI 20 := rfl
theorem nl_24 : (24 : Int32) = nI 24 := rfl
theorem nl_26 : (26 : Int32) = nI 26 := rfl
theorem nl_30 : (30 : Int32) = nI 30 := rfl
theorem nl_32 : (32 : Int32) = nI 32 := rfl
theorem nl_36 : (36 : Int32) = nI 36 := rfl
theorem nl_39 : (39 : Int32) = nI 39 := rfl
theorem nl_40 : (40 : Int32) = nI 40 := rfl
theorem nl_45 : (45 : Int32) = nI 45 := rfl
theorem nl_48 : (48 : Int32) = nI 48 := rfl
theorem nl_50 : (50 : Int32) = nI 50 := rfl
theorem nl_57 : (57 : Int32) = nI 57 := rfl
theorem nl_59 : (59 : Int32) = nI 59 := rfl
theorem nl_60 : (60 : Int32) = nI 60 := rfl
theorem nl_61 : (61 : Int32) = nI 61 := rfl
theorem nl_62 : (62 : Int32) = nI 62 := rfl
theorem nl_64 : (64 : Int32) = nI 64 := rfl
theorem nl_72 : (72 : Int32) = nI 72 := rfl
theorem nl_73 : (73 : Int32) = nI 73 := rfl
theorem nl_80 : (80 : Int32) = nI 80 := rfl
theorem nl_90 : (90 : Int32) = nI 90 := rfl
theorem nl_97 : (97 : Int32) = nI 97 := rfl
theorem nl_99 : (99 : Int32) = nI 99 := rfl
theorem nl_100 : (100 : Int32) = nI 100 := rfl
theorem nl_120 : (120 : Int32) = nI 120 := rfl
theorem nl_122 : (122 : Int32) = nI 122 := rfl
theorem nl_123 : (123 : Int32) = nI 123 := rfl
theorem nl_127 : (127 : Int32) = nI 127 := rfl
theorem nl_128 : (128 : Int32) = nI 128 := rfl
theorem nl_199 : (199 : Int32) = nI 199 := rfl
theorem nl_200 : (200 : Int32) = nI 200 := rfl
theorem nl_255 : (255 : Int32) = nI 255 := rfl
theorem nl_256 : (256 : Int32) = nI 256 := rfl
theorem nl_290 : (290 : Int32) = nI 290 := rfl
theorem nl_399 : (399 : Int32) = nI 399 := rfl
theorem nl_400 : (400 : Int32) = nI 400 := rfl
theorem nl_500 : (500 : Int32) = nI 500 := rfl
theorem nl_512 : (512 : Int32) = nI 512 := rfl
theorem nl_520 : (520 : Int32) = nI 520 := rfl
theorem nl_600 : (600 : Int32) = nI 600 := rfl
theorem nl_999 : (999 : Int32) = nI 999 := rfl
theorem nl_1000 : (1000 : Int32) = nI 1000 := rfl
theorem nl_2000 : (2000 : Int32) = nI 2000 := rfl
theorem nl_9999 : (9999 : Int32) = nI 9999 := rfl
theorem nl_10000 : (10000 : Int32) = nI 10000 := rfl
theorem va_up_eq {α : Type} (f : Nat → α) (k : Nat) (v : α) : va_up f k v k = v := by unfold va_up; rw [if_pos rfl]
theorem va_up_ne' {α : Type} (f : Nat → α) {k j : Nat} (v : α) (h : j ≠ k) : va_up f k v j = f j := by unfold va_up; rw [if_neg h]
theorem vpi {i : Int32} {N : Nat} : vp_in i N ↔ 0 ≤ i.toInt ∧ i.toInt < N := by
  have e : i.toNatClampNeg = i.toInt.toNat := rfl
  unfold vp_in
  rw [Int32.lt_iff_toInt_lt, e, tl_0]
  constructor
  · intro h
    constructor <;> omega
  · intro h h2
    omega
theorem lcmp_lt {x y : Int64} : lg_cmp x y < 0 ↔ x.toInt < y.toInt := by
  unfold lg_cmp
  by_cases h1 : x > y
  · have : y.toInt < x.toInt := Int64.lt_iff_toInt_lt.mp h1
    rw [if_pos h1]; constructor
    · intro h; exact absurd h (by decide)
    · intro h; omega
  · have h1' : ¬ y.toInt < x.toInt := fun h => h1 (Int64.lt_iff_toInt_lt.mpr h)
    rw [if_neg h1]
    by_cases h2 : x = y
    · rw [if_pos h2]; subst h2; constructor
      · intro h; exact absurd h (by decide)
      · intro h; omega
    · rw [if_neg h2]; constructor
      · intro _
        have : x.toInt ≠ y.toInt := fun e => h2 (Int64.toInt_inj.mp e)
        omega
      · intro _; decide
theorem lcmp_le {x y : Int64} : lg_cmp x y ≤ 0 ↔ x.toInt ≤ y.toInt := by
  unfold lg_cmp
  by_cases h1 : x > y
  · have : y.toInt < x.toInt := Int64.lt_iff_toInt_lt.mp h1
    rw [if_pos h1]; constructor
    · intro h; exact absurd h (by decide)
    · intro h; omega
  · have h1' : ¬ y.toInt < x.toInt := fun h => h1 (Int64.lt_iff_toInt_lt.mpr h)
    rw [if_neg h1]
    by_cases h2 : x = y
    · rw [if_pos h2]; subst h2; constructor
      · intro h; omega
      · intro h; decide
    · rw [if_neg h2]; constructor
      · intro _; omega
      · intro _; decide
theorem lcmp_gt {x y : Int64} : 0 < lg_cmp x y ↔ y.toInt < x.toInt := by
  have h := lcmp_le (x := x) (y := y)
  constructor
  · intro h1
    have h2 : ¬ lg_cmp x y ≤ 0 := by
      rw [Int32.le_iff_toInt_le]; rw [Int32.lt_iff_toInt_lt] at h1; omega
    rw [h] at h2; omega
  · intro h1
    have h2 : ¬ lg_cmp x y ≤ 0 := by rw [h]; omega
    rw [Int32.le_iff_toInt_le] at h2; rw [Int32.lt_iff_toInt_lt]; omega
theorem lcmp_ge {x y : Int64} : 0 ≤ lg_cmp x y ↔ y.toInt ≤ x.toInt := by
  have h := lcmp_lt (x := x) (y := y)
  constructor
  · intro h1
    have h2 : ¬ lg_cmp x y < 0 := by
      rw [Int32.lt_iff_toInt_lt]; rw [Int32.le_iff_toInt_le] at h1; omega
    rw [h] at h2; omega
  · intro h1
    have h2 : ¬ lg_cmp x y < 0 := by rw [h]; omega
    rw [Int32.lt_iff_toInt_lt] at h2; rw [Int32.le_iff_toInt_le]; omega
/-- the model's in(..) -/
theorem s_in {x lo hi : Int64} {Q : Int32 → Prop} (h1 : lo.toInt ≤ x.toInt → x.toInt ≤ hi.toInt → Q 1) (h0 : ¬ (lo.toInt ≤ x.toInt ∧ x.toInt ≤ hi.toInt) → Q 0) : qX12_in x lo hi Q := by
  unfold qX12_in
  refine ⟨fun h => h0 ?_, fun h => ⟨fun h2 => h0 ?_, fun h2 => h1 ?_ ?_⟩⟩
  · rw [lcmp_lt] at h; omega
  · rw [lcmp_gt] at h2; omega
  · rw [lcmp_lt] at h; omega
  · rw [lcmp_gt] at h2; omega
