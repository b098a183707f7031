/-! ===== the memory at the law's entry ===== -/
/-- static arrays and the bytes of the texts: clock team last line pair extra -/
def iv_T : List (UInt32 × List Int32) := [(20, [0, 0, 0, 0, 0, 1, 1, 1]), (21, [99, 99, 300, 99, 99, 15, 7, 7]),
  (101, [99, 108, 111, 99, 107]), (102, [116, 101, 97, 109]), (103, [108, 97, 115, 116]), (104, [108, 105, 110, 101]), (105, [112, 97, 105, 114]), (106, [101, 120, 116, 114, 97]),
  (111, [99, 108, 111, 99, 107]), (112, [116, 101, 97, 109]), (113, [108, 97, 115, 116]), (114, [108, 105, 110, 101]), (115, [112, 97, 105, 114]), (116, [101, 120, 116, 114, 97])]
def iv_g (q : UInt32) : List Int32 := ((iv_T.find? (fun z => z.1 == q)).map fun z => z.2).getD []
def iv_O (xs : Nat → Int32) (q : UInt32) (j : Nat) : Int32 := if q = 0 then xs j else (iv_g q).getD j 0
def iv_N (L : Nat) (q : UInt32) : Nat := if q = 0 then L else (iv_g q).length
def iv_h (L : Nat) (xs : Nat → Int32) : mm_M := (fun _ _ => 0, fun _ _ => 0, fun _ _ => 0, fun _ => (0, 0), iv_O xs, iv_N L, 0, 0, 0)
