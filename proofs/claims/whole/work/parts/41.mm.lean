/-! ===== the places behind the two constructors (printed by skgen.py) ===== -/
def sh_L : List (Nat × Nat) := [(0, 0), (12, 13), (7, 5), (11, 13), (100, 6), (100, 6), (100, 6), (100, 6), (100, 6), (100, 6), (11, 13), (100, 6), (100, 6), (100, 6), (100, 6), (100, 6), (100, 6), (7, 5), (11, 13), (100, 6), (100, 6), (100, 6), (100, 6), (100, 6), (100, 6), (11, 13), (100, 6), (100, 6), (100, 6), (100, 6), (100, 6), (100, 6), (6, 12), (7, 5), (11, 13), (100, 6), (100, 6), (100, 6), (100, 6), (100, 6), (100, 6), (11, 13), (100, 6), (100, 6), (100, 6), (100, 6), (100, 6), (100, 6), (101, 500), (1, 3), (104, 16), (100, 22), (100, 22), (100, 22), (100, 22), (100, 22), (100, 22), (100, 22), (100, 22), (100, 22), (100, 22), (100, 22), (100, 22), (100, 22), (100, 22), (100, 22), (100, 22), (2, 10), (103, 9), (103, 9), (100, 9), (100, 9), (9, 7), (100, 6), (100, 6), (100, 6), (9, 7), (100, 6), (100, 6), (100, 6), (9, 7), (100, 6), (100, 6), (100, 6), (9, 7), (100, 6), (100, 6), (100, 6), (9, 7), (100, 6), (100, 6), (100, 6), (9, 7), (100, 6), (100, 6), (100, 6), (9, 7), (100, 6), (100, 6), (100, 6), (9, 7), (100, 6), (100, 6), (100, 6), (9, 7), (100, 6), (100, 6), (100, 6), (9, 7), (100, 6), (100, 6), (100, 6), (9, 7), (100, 6), (100, 6), (100, 6), (9, 7), (100, 6), (100, 6), (100, 6), (9, 7), (100, 6), (100, 6), (100, 6), (9, 7), (100, 6), (100, 6), (100, 6), (9, 7), (100, 6), (100, 6), (100, 6), (9, 7), (100, 6), (100, 6), (100, 6), (9, 7), (100, 6), (100, 6), (100, 6), (9, 7), (100, 6), (100, 6), (100, 6), (8, 6), (100, 8), (100, 8), (100, 9), (100, 8), (4, 4), (100, 4), (100, 4), (5, 3), (100, 11), (100, 11), (100, 11), (3, 6), (100, 22), (10, 2), (101, 64), (100, 16), (13, 42), (100, 890), (100, 89), (100, 1424), (100, 89), (101, 500), (100, 8), (100, 8), (100, 8), (100, 4), (100, 4), (100, 16), (100, 16), (100, 16), (100, 671), (100, 11), (100, 2), (101, 120), (102, 1)]
def pt_L : List (List Nat) := [[], [2, 17, 32, 49, 67, 144, 149, 152, 156, 158, 160], [3, 10], [0, 0, 0, 0, 0, 0, 0, 4, 5, 6, 7, 8, 9], [], [], [], [], [], [], [0, 0, 0, 0, 0, 0, 0, 11, 12, 13, 14, 15, 16], [], [], [], [], [], [], [18, 25], [0, 0, 0, 0, 0, 0, 0, 19, 20, 21, 22, 23, 24], [], [], [], [], [], [], [0, 0, 0, 0, 0, 0, 0, 26, 27, 28, 29, 30, 31], [], [], [], [], [], [], [33, 0, 0, 48], [34, 41], [0, 0, 0, 0, 0, 0, 0, 35, 36, 37, 38, 39, 40], [], [], [], [], [], [], [0, 0, 0, 0, 0, 0, 0, 42, 43, 44, 45, 46, 47], [], [], [], [], [], [], [], [50], [51, 52, 53, 54, 55, 56, 57, 58, 59, 60, 61, 62, 63, 64, 65, 66], [], [], [], [], [], [], [], [], [], [], [], [], [], [], [], [], [2, 68, 69, 70, 71, 69, 68], [72, 80, 88, 96, 104, 112, 120, 128, 136], [76, 84, 92, 100, 108, 116, 124, 132, 140], [], [], [3, 73, 74, 75], [], [], [], [10, 77, 78, 79], [], [], [], [3, 81, 82, 83], [], [], [], [10, 85, 86, 87], [], [], [], [3, 89, 90, 91], [], [], [], [10, 93, 94, 95], [], [], [], [3, 97, 98, 99], [], [], [], [10, 101, 102, 103], [], [], [], [3, 105, 106, 107], [], [], [], [10, 109, 110, 111], [], [], [], [3, 113, 114, 115], [], [], [], [10, 117, 118, 119], [], [], [], [3, 121, 122, 123], [], [], [], [10, 125, 126, 127], [], [], [], [3, 129, 130, 131], [], [], [], [10, 133, 134, 135], [], [], [], [3, 137, 138, 139], [], [], [], [10, 141, 142, 143], [], [], [], [67, 145, 146, 147, 148], [], [], [], [], [2, 150, 151], [], [], [153, 154, 155], [], [], [], [2, 67, 157], [], [159], [], [], [0, 162, 163, 164, 165, 0, 0, 166, 0, 0, 0, 0, 0, 0, 0, 0, 0, 0, 0, 0, 0, 167, 168, 169, 0, 0, 170, 171, 172, 173, 174, 0, 175, 176, 0, 0, 0, 177, 0, 0, 178], [], [], [], [], [], [], [], [], [], [], [], [], [], [], [], [], [], []]
def SH (a : Nat) : Nat × Nat := sh_L.getD a (0, 0)
def PT (a k : Nat) : Nat := (pt_L.getD a []).getD k 0
/-- ints by place and slot, as whole numbers -/
abbrev Am : Type := Nat → Int → Int
/-- the rest: old things and their lengths, longs, Ahead's two references, exceptions, slots -/
abbrev En : Type := (UInt32 → Nat → Int32) × (UInt32 → Nat) × (Nat → Nat → Int64) × Nat × Nat × Nat × Nat
def eO (E : En) : UInt32 → Nat → Int32 := E.1
def eL (E : En) : UInt32 → Nat := E.2.1
def eJ (E : En) : Nat → Nat → Int64 := E.2.2.1
def eF (E : En) : Nat := E.2.2.2.1
def eG (E : En) : Nat := E.2.2.2.2.1
def eX (E : En) : Nat := E.2.2.2.2.2.1
def eS (E : En) : Nat := E.2.2.2.2.2.2
def MM (A : Am) (E : En) : mm_M := (fun p k => iI (A p k), eJ E, fun a k => if a = 67 then (if k = 5 then eF E else if k = 6 then eG E else PT a k) else PT a k, SH, eO E, eL E, 179, eX E, eS E)
def uA (A : Am) (p : Nat) (k v : Int) : Am := fun q j => if q = p ∧ j = k then v else A q j
def cA (A : Am) (a : Nat) (sp : Int) (b : Nat) (dp n : Int) : Am := fun q j => if q = b ∧ dp ≤ j ∧ j < dp + n then A a (sp + (j - dp)) else A q j
def thE (E : En) : En := (eO E, eL E, eJ E, eF E, eG E, eX E + 1, eS E + 6)
def jE (E : En) (p k : Nat) (v : Int64) : En := (eO E, eL E, fun b j => if b = p ∧ j = k then v else eJ E b j, eF E, eG E, eX E, eS E)
def fE (E : En) (v : Nat) : En := (eO E, eL E, eJ E, v, eG E, eX E, eS E)
def gE (E : En) (v : Nat) : En := (eO E, eL E, eJ E, eF E, v, eX E, eS E)
section MMs
variable {A : Am} {E : En}
theorem I_at {a : Int} (p : Nat) (h0 : 0 ≤ a) (h1 : a < 2147483648) : mm_I (MM A E) p (Int32.toNatClampNeg (iI a)) = iI (A p a) := by
  show iI (A p ((Int32.toNatClampNeg (iI a) : Nat) : Int)) = _
  rw [iI_cl h0 h1, Int.toNat_of_nonneg h0]
theorem w_any (p k : Nat) (v : Int) : mm_wI (MM A E) p k (iI v) = MM (uA A p (k : Int) v) E := by
  unfold mm_wI
  refine Prod.ext ?_ rfl
  funext q j
  show (if q = p ∧ j = k then iI v else iI (A q j)) = iI (uA A p k v q j)
  unfold uA
  by_cases c : q = p ∧ j = k
  · rw [if_pos c, if_pos ⟨c.1, by rw [c.2]⟩]
  · rw [if_neg c, if_neg (fun z => c ⟨z.1, by have := z.2; omega⟩)]
theorem w_at {a : Int} (p : Nat) (v : Int) (h0 : 0 ≤ a) (h1 : a < 2147483648) : mm_wI (MM A E) p (Int32.toNatClampNeg (iI a)) (iI v) = MM (uA A p a v) E := by
  rw [iI_cl h0 h1, w_any, Int.toNat_of_nonneg h0]
theorem cp_any (a b sp dp n : Nat) : mm_cp (MM A E) a sp b dp n = MM (cA A a sp b dp n) E := by
  unfold mm_cp
  refine Prod.ext ?_ rfl
  funext q j
  show (if q = b ∧ dp ≤ j ∧ j < dp + n then iI (A a ((sp + (j - dp) : Nat) : Int)) else iI (A q j)) = iI (cA A a sp b dp n q j)
  unfold cA
  by_cases c : q = b ∧ dp ≤ j ∧ j < dp + n
  · rw [if_pos c, if_pos ⟨c.1, by omega, by omega⟩, show ((sp + (j - dp) : Nat) : Int) = (sp : Int) + ((j : Int) - dp) by omega]
  · rw [if_neg c, if_neg (fun z => c ⟨z.1, by omega, by omega⟩)]
theorem cp_at {x y z : Int} (a b : Nat) (x0 : 0 ≤ x) (x1 : x < 2147483648) (y0 : 0 ≤ y) (y1 : y < 2147483648) (z0 : 0 ≤ z) (z1 : z < 2147483648) : mm_cp (MM A E) a (Int32.toNatClampNeg (iI x)) b (Int32.toNatClampNeg (iI y)) (Int32.toNatClampNeg (iI z)) = MM (cA A a x b y z) E := by
  rw [iI_cl x0 x1, iI_cl y0 y1, iI_cl z0 z1, cp_any, Int.toNat_of_nonneg x0, Int.toNat_of_nonneg y0, Int.toNat_of_nonneg z0]
theorem cp_le {y z : Int} {n : Nat} (y0 : 0 ≤ y) (y1 : y < 2147483648) (z0 : 0 ≤ z) (z1 : z < 2147483648) (h : y + z ≤ n) : Nat.ble (Int32.toNatClampNeg (iI y) + Int32.toNatClampNeg (iI z)) n = true := by
  rw [iI_cl y0 y1, iI_cl z0 z1]
  exact Nat.ble_eq.mpr (by omega)
theorem th_MM : mm_th (MM A E) = MM A (thE E) := rfl
theorem J_MM (p k : Nat) : mm_J (MM A E) p k = eJ E p k := rfl
theorem wJ_MM (p k : Nat) (v : Int64) : mm_wJ (MM A E) p k v = MM A (jE E p k v) := rfl
theorem O_MM (q : UInt32) (k : Nat) : mm_O (MM A E) q k = eO E q k := rfl
theorem L_MM (q : UInt32) : mm_L (MM A E) q = eL E q := rfl
theorem n_MM : mm_n (MM A E) = 179 := rfl
theorem x_MM : mm_x (MM A E) = eX E := rfl
theorem s_MM : mm_s (MM A E) = eS E := rfl
theorem P_F : mm_P (MM A E) 67 5 = eF E := rfl
theorem P_G : mm_P (MM A E) 67 6 = eG E := rfl
theorem wP_F (v : Nat) : mm_wP (MM A E) 67 5 v = MM A (fE E v) := by
  unfold mm_wP MM
  refine Prod.ext rfl (Prod.ext rfl (Prod.ext ?_ rfl))
  funext a k
  show (if a = 67 ∧ k = 5 then v else if a = 67 then (if k = 5 then eF E else if k = 6 then eG E else PT a k) else PT a k) = if a = 67 then (if k = 5 then v else if k = 6 then eG E else PT a k) else PT a k
  by_cases c : a = 67
  · by_cases e : k = 5
    · rw [if_pos ⟨c, e⟩, if_pos c, if_pos e]
    · rw [if_neg (fun z => e z.2), if_pos c, if_pos c, if_neg e, if_neg e]
  · rw [if_neg (fun z => c z.1), if_neg c, if_neg c]
theorem wP_G (v : Nat) : mm_wP (MM A E) 67 6 v = MM A (gE E v) := by
  unfold mm_wP MM
  refine Prod.ext rfl (Prod.ext rfl (Prod.ext ?_ rfl))
  funext a k
  show (if a = 67 ∧ k = 6 then v else if a = 67 then (if k = 5 then eF E else if k = 6 then eG E else PT a k) else PT a k) = if a = 67 then (if k = 5 then eF E else if k = 6 then v else PT a k) else PT a k
  by_cases c : a = 67
  · by_cases e : k = 6
    · subst e
      rw [if_pos ⟨c, rfl⟩, if_pos c, if_neg (by decide), if_pos rfl]
    · rw [if_neg (fun z => e z.2), if_pos c, if_pos c, if_neg e, if_neg e]
  · rw [if_neg (fun z => c z.1), if_neg c, if_neg c]
theorem is_MM (a t : Nat) : mm_is (MM A E) a t = decide ((SH a).1 = t) := rfl
theorem sz_MM (a : Nat) : mm_sz (MM A E) a = (SH a).2 := rfl
theorem ar_MM (a : Nat) : mm_ar (MM A E) a = (Nat.ble 100 (SH a).1 && Nat.ble (SH a).1 104) := rfl
theorem rr_MM (a : Nat) : mm_rr (MM A E) a = (Nat.ble 103 (SH a).1 && Nat.ble (SH a).1 104) := rfl
theorem P_MM {a k : Nat} (h : a ≠ 67) : mm_P (MM A E) a k = PT a k := if_neg h
/-! what was written -/
theorem uA_eq (p : Nat) (k v : Int) : uA A p k v p k = v := if_pos ⟨rfl, rfl⟩
theorem uA_p {p q : Nat} (k v j : Int) (h : q ≠ p) : uA A p k v q j = A q j := if_neg (fun z => h z.1)
theorem uA_k {p q : Nat} {k j : Int} (v : Int) (h : j ≠ k) : uA A p k v q j = A q j := if_neg (fun z => h z.2)
theorem cA_in {a b q : Nat} {sp dp n j : Int} (hq : q = b) (h1 : dp ≤ j) (h2 : j < dp + n) : cA A a sp b dp n q j = A a (sp + (j - dp)) := if_pos ⟨hq, h1, h2⟩
theorem cA_p {a b q : Nat} {sp dp n j : Int} (hq : q ≠ b) : cA A a sp b dp n q j = A q j := if_neg (fun z => hq z.1)
theorem cA_k {a b q : Nat} {sp dp n j : Int} (h : j < dp ∨ dp + n ≤ j) : cA A a sp b dp n q j = A q j := if_neg (fun z => by omega)
/-- a row filled from lo up to hi -/
def fA (A : Am) (p : Nat) (lo hi : Int) (f : Int → Int) : Am := fun q j => if q = p ∧ lo ≤ j ∧ j < hi then f j else A q j
theorem fA_step {p : Nat} {i hi : Int} {f : Int → Int} {v : Int} (h : i < hi) (hv : v = f i) : fA (uA A p i v) p (i + 1) hi f = fA A p i hi f := by
  subst hv
  funext q j
  unfold fA uA
  by_cases c : q = p
  · by_cases e : j = i
    · rw [if_neg (by omega), if_pos ⟨c, e⟩, if_pos (by omega), e]
    · by_cases g : i ≤ j ∧ j < hi
      · rw [if_pos (by omega), if_pos (by omega)]
      · rw [if_neg (by omega), if_neg (by omega), if_neg (by omega)]
  · rw [if_neg (fun z => c z.1), if_neg (fun z => c z.1), if_neg (fun z => c z.1)]
theorem fA_nil {p : Nat} {i hi : Int} {f : Int → Int} (h : hi ≤ i) : fA A p i hi f = A := by
  funext q j
  unfold fA
  rw [if_neg (by omega)]
theorem fA_in {p q : Nat} {lo hi j : Int} {f : Int → Int} (hq : q = p) (h1 : lo ≤ j) (h2 : j < hi) : fA A p lo hi f q j = f j := if_pos ⟨hq, h1, h2⟩
theorem fA_p {p q : Nat} {lo hi j : Int} {f : Int → Int} (hq : q ≠ p) : fA A p lo hi f q j = A q j := if_neg (fun z => hq z.1)
theorem fA_k {p q : Nat} {lo hi j : Int} {f : Int → Int} (h : j < lo ∨ hi ≤ j) : fA A p lo hi f q j = A q j := if_neg (fun z => by omega)
theorem fA_P {p q : Nat} {lo hi : Int} {f : Int → Int} (hq : q ≠ p) : fA A p lo hi f q = A q := funext fun _ => fA_p hq
theorem uA_P {p q : Nat} {k v : Int} (hq : q ≠ p) : uA A p k v q = A q := funext fun _ => uA_p _ _ _ hq
theorem cA_P {a b q : Nat} {sp dp n : Int} (hq : q ≠ b) : cA A a sp b dp n q = A q := funext fun _ => cA_p hq
/-! calls that have come back -/
theorem cI_ok (v : Int32) (h : mm_M) (k : Int32 → mm_M → Option am_R) (x : Nat → mm_M → Option am_R) : am_cI (some (.inl (some (.int v)), h)) k x = k v h := rfl
theorem cR_ok (v : Nat) (h : mm_M) (k : Nat → mm_M → Option am_R) (x : Nat → mm_M → Option am_R) : am_cR (some (.inl (some (.ref v)), h)) k x = k v h := rfl
theorem cJ_ok (v : Int64) (h : mm_M) (k : Int64 → mm_M → Option am_R) (x : Nat → mm_M → Option am_R) : am_cJ (some (.inl (some (.long v)), h)) k x = k v h := rfl
theorem cV_ok (h : mm_M) (k : mm_M → Option am_R) (x : Nat → mm_M → Option am_R) : am_cV (some (.inl none, h)) k x = k h := rfl
theorem cI_th (e : Nat) (h : mm_M) (k : Int32 → mm_M → Option am_R) (x : Nat → mm_M → Option am_R) : am_cI (some (.inr e, h)) k x = x e h := rfl
theorem cR_th (e : Nat) (h : mm_M) (k : Nat → mm_M → Option am_R) (x : Nat → mm_M → Option am_R) : am_cR (some (.inr e, h)) k x = x e h := rfl
theorem cV_th (e : Nat) (h : mm_M) (k : mm_M → Option am_R) (x : Nat → mm_M → Option am_R) : am_cV (some (.inr e, h)) k x = x e h := rfl
theorem xT_th (e : Nat) (h : mm_M) : am_xT e h = some (.inr e, h) := rfl
theorem bl_0 {d : Nat} (h : 0 < d) : Nat.blt 0 d = true := Nat.ble_eq.mpr h
theorem bl_10 {d : Nat} (h : 10 ≤ d) : Nat.ble 10 d = true := Nat.ble_eq.mpr h
theorem nr_0 (x : Int32) : mm_nr 0 x = true := rfl
theorem nr_10 : mm_nr 1 0 = true := by decide
theorem nr_11 : mm_nr 1 1 = true := by decide
theorem nr_i0 : mm_nr 1 (iI 0) = true := by decide
theorem nr_i1 : mm_nr 1 (iI 1) = true := by decide
theorem nr_ib {v : Int} (h0 : 0 ≤ v) (h1 : v ≤ 1) : mm_nr 1 (iI v) = true := by
  rcases (by omega : v = 0 ∨ v = 1) with rfl | rfl <;> decide
/-- a truth value as an int -/
def bo (b : Bool) : Int32 := cond b 1 0
theorem bo_nr (b : Bool) : mm_nr 1 (bo b) = true := by cases b <;> decide
theorem bo_0 (b : Bool) : mm_eq (bo b) 0 = !b := by cases b <;> decide
theorem bo_i0 (b : Bool) : mm_eq (bo b) (iI 0) = !b := by cases b <;> decide
theorem bo_t : (1 : Int32) = bo true := rfl
theorem bo_f : (0 : Int32) = bo false := rfl
theorem bo_i (b : Bool) : bo b = iI (cond b 1 0) := by cases b <;> rfl
theorem I_0 (p : Nat) : mm_I (MM A E) p 0 = iI (A p 0) := rfl
theorem w_0 (p : Nat) (v : Int) : mm_wI (MM A E) p 0 (iI v) = MM (uA A p 0 v) E := w_any p 0 v
theorem I_1 (p : Nat) : mm_I (MM A E) p 1 = iI (A p 1) := rfl
theorem w_1 (p : Nat) (v : Int) : mm_wI (MM A E) p 1 (iI v) = MM (uA A p 1 v) E := w_any p 1 v
theorem I_2 (p : Nat) : mm_I (MM A E) p 2 = iI (A p 2) := rfl
theorem w_2 (p : Nat) (v : Int) : mm_wI (MM A E) p 2 (iI v) = MM (uA A p 2 v) E := w_any p 2 v
theorem I_3 (p : Nat) : mm_I (MM A E) p 3 = iI (A p 3) := rfl
theorem w_3 (p : Nat) (v : Int) : mm_wI (MM A E) p 3 (iI v) = MM (uA A p 3 v) E := w_any p 3 v
theorem I_4 (p : Nat) : mm_I (MM A E) p 4 = iI (A p 4) := rfl
theorem w_4 (p : Nat) (v : Int) : mm_wI (MM A E) p 4 (iI v) = MM (uA A p 4 v) E := w_any p 4 v
theorem I_5 (p : Nat) : mm_I (MM A E) p 5 = iI (A p 5) := rfl
theorem w_5 (p : Nat) (v : Int) : mm_wI (MM A E) p 5 (iI v) = MM (uA A p 5 v) E := w_any p 5 v
theorem I_6 (p : Nat) : mm_I (MM A E) p 6 = iI (A p 6) := rfl
theorem w_6 (p : Nat) (v : Int) : mm_wI (MM A E) p 6 (iI v) = MM (uA A p 6 v) E := w_any p 6 v
theorem I_7 (p : Nat) : mm_I (MM A E) p 7 = iI (A p 7) := rfl
theorem w_7 (p : Nat) (v : Int) : mm_wI (MM A E) p 7 (iI v) = MM (uA A p 7 v) E := w_any p 7 v
theorem I_8 (p : Nat) : mm_I (MM A E) p 8 = iI (A p 8) := rfl
theorem w_8 (p : Nat) (v : Int) : mm_wI (MM A E) p 8 (iI v) = MM (uA A p 8 v) E := w_any p 8 v
theorem I_9 (p : Nat) : mm_I (MM A E) p 9 = iI (A p 9) := rfl
theorem w_9 (p : Nat) (v : Int) : mm_wI (MM A E) p 9 (iI v) = MM (uA A p 9 v) E := w_any p 9 v
theorem I_10 (p : Nat) : mm_I (MM A E) p 10 = iI (A p 10) := rfl
theorem w_10 (p : Nat) (v : Int) : mm_wI (MM A E) p 10 (iI v) = MM (uA A p 10 v) E := w_any p 10 v
theorem I_11 (p : Nat) : mm_I (MM A E) p 11 = iI (A p 11) := rfl
theorem w_11 (p : Nat) (v : Int) : mm_wI (MM A E) p 11 (iI v) = MM (uA A p 11 v) E := w_any p 11 v
theorem I_12 (p : Nat) : mm_I (MM A E) p 12 = iI (A p 12) := rfl
theorem w_12 (p : Nat) (v : Int) : mm_wI (MM A E) p 12 (iI v) = MM (uA A p 12 v) E := w_any p 12 v
theorem I_13 (p : Nat) : mm_I (MM A E) p 13 = iI (A p 13) := rfl
theorem w_13 (p : Nat) (v : Int) : mm_wI (MM A E) p 13 (iI v) = MM (uA A p 13 v) E := w_any p 13 v
theorem I_14 (p : Nat) : mm_I (MM A E) p 14 = iI (A p 14) := rfl
theorem w_14 (p : Nat) (v : Int) : mm_wI (MM A E) p 14 (iI v) = MM (uA A p 14 v) E := w_any p 14 v
theorem I_15 (p : Nat) : mm_I (MM A E) p 15 = iI (A p 15) := rfl
theorem w_15 (p : Nat) (v : Int) : mm_wI (MM A E) p 15 (iI v) = MM (uA A p 15 v) E := w_any p 15 v
theorem I_16 (p : Nat) : mm_I (MM A E) p 16 = iI (A p 16) := rfl
theorem w_16 (p : Nat) (v : Int) : mm_wI (MM A E) p 16 (iI v) = MM (uA A p 16 v) E := w_any p 16 v
theorem I_17 (p : Nat) : mm_I (MM A E) p 17 = iI (A p 17) := rfl
theorem w_17 (p : Nat) (v : Int) : mm_wI (MM A E) p 17 (iI v) = MM (uA A p 17 v) E := w_any p 17 v
theorem I_18 (p : Nat) : mm_I (MM A E) p 18 = iI (A p 18) := rfl
theorem w_18 (p : Nat) (v : Int) : mm_wI (MM A E) p 18 (iI v) = MM (uA A p 18 v) E := w_any p 18 v
theorem I_19 (p : Nat) : mm_I (MM A E) p 19 = iI (A p 19) := rfl
theorem w_19 (p : Nat) (v : Int) : mm_wI (MM A E) p 19 (iI v) = MM (uA A p 19 v) E := w_any p 19 v
theorem I_20 (p : Nat) : mm_I (MM A E) p 20 = iI (A p 20) := rfl
theorem w_20 (p : Nat) (v : Int) : mm_wI (MM A E) p 20 (iI v) = MM (uA A p 20 v) E := w_any p 20 v
theorem I_21 (p : Nat) : mm_I (MM A E) p 21 = iI (A p 21) := rfl
theorem w_21 (p : Nat) (v : Int) : mm_wI (MM A E) p 21 (iI v) = MM (uA A p 21 v) E := w_any p 21 v
theorem I_22 (p : Nat) : mm_I (MM A E) p 22 = iI (A p 22) := rfl
theorem w_22 (p : Nat) (v : Int) : mm_wI (MM A E) p 22 (iI v) = MM (uA A p 22 v) E := w_any p 22 v
theorem I_23 (p : Nat) : mm_I (MM A E) p 23 = iI (A p 23) := rfl
theorem w_23 (p : Nat) (v : Int) : mm_wI (MM A E) p 23 (iI v) = MM (uA A p 23 v) E := w_any p 23 v
theorem I_24 (p : Nat) : mm_I (MM A E) p 24 = iI (A p 24) := rfl
theorem w_24 (p : Nat) (v : Int) : mm_wI (MM A E) p 24 (iI v) = MM (uA A p 24 v) E := w_any p 24 v
theorem I_25 (p : Nat) : mm_I (MM A E) p 25 = iI (A p 25) := rfl
theorem w_25 (p : Nat) (v : Int) : mm_wI (MM A E) p 25 (iI v) = MM (uA A p 25 v) E := w_any p 25 v
theorem I_26 (p : Nat) : mm_I (MM A E) p 26 = iI (A p 26) := rfl
theorem w_26 (p : Nat) (v : Int) : mm_wI (MM A E) p 26 (iI v) = MM (uA A p 26 v) E := w_any p 26 v
theorem I_27 (p : Nat) : mm_I (MM A E) p 27 = iI (A p 27) := rfl
theorem w_27 (p : Nat) (v : Int) : mm_wI (MM A E) p 27 (iI v) = MM (uA A p 27 v) E := w_any p 27 v
theorem I_28 (p : Nat) : mm_I (MM A E) p 28 = iI (A p 28) := rfl
theorem w_28 (p : Nat) (v : Int) : mm_wI (MM A E) p 28 (iI v) = MM (uA A p 28 v) E := w_any p 28 v
theorem I_29 (p : Nat) : mm_I (MM A E) p 29 = iI (A p 29) := rfl
theorem w_29 (p : Nat) (v : Int) : mm_wI (MM A E) p 29 (iI v) = MM (uA A p 29 v) E := w_any p 29 v
theorem I_30 (p : Nat) : mm_I (MM A E) p 30 = iI (A p 30) := rfl
theorem w_30 (p : Nat) (v : Int) : mm_wI (MM A E) p 30 (iI v) = MM (uA A p 30 v) E := w_any p 30 v
theorem I_31 (p : Nat) : mm_I (MM A E) p 31 = iI (A p 31) := rfl
theorem w_31 (p : Nat) (v : Int) : mm_wI (MM A E) p 31 (iI v) = MM (uA A p 31 v) E := w_any p 31 v
theorem I_32 (p : Nat) : mm_I (MM A E) p 32 = iI (A p 32) := rfl
theorem w_32 (p : Nat) (v : Int) : mm_wI (MM A E) p 32 (iI v) = MM (uA A p 32 v) E := w_any p 32 v
theorem I_33 (p : Nat) : mm_I (MM A E) p 33 = iI (A p 33) := rfl
theorem w_33 (p : Nat) (v : Int) : mm_wI (MM A E) p 33 (iI v) = MM (uA A p 33 v) E := w_any p 33 v
theorem I_34 (p : Nat) : mm_I (MM A E) p 34 = iI (A p 34) := rfl
theorem w_34 (p : Nat) (v : Int) : mm_wI (MM A E) p 34 (iI v) = MM (uA A p 34 v) E := w_any p 34 v
theorem I_35 (p : Nat) : mm_I (MM A E) p 35 = iI (A p 35) := rfl
theorem w_35 (p : Nat) (v : Int) : mm_wI (MM A E) p 35 (iI v) = MM (uA A p 35 v) E := w_any p 35 v
theorem I_36 (p : Nat) : mm_I (MM A E) p 36 = iI (A p 36) := rfl
theorem w_36 (p : Nat) (v : Int) : mm_wI (MM A E) p 36 (iI v) = MM (uA A p 36 v) E := w_any p 36 v
theorem I_37 (p : Nat) : mm_I (MM A E) p 37 = iI (A p 37) := rfl
theorem w_37 (p : Nat) (v : Int) : mm_wI (MM A E) p 37 (iI v) = MM (uA A p 37 v) E := w_any p 37 v
theorem I_38 (p : Nat) : mm_I (MM A E) p 38 = iI (A p 38) := rfl
theorem w_38 (p : Nat) (v : Int) : mm_wI (MM A E) p 38 (iI v) = MM (uA A p 38 v) E := w_any p 38 v
theorem I_39 (p : Nat) : mm_I (MM A E) p 39 = iI (A p 39) := rfl
theorem w_39 (p : Nat) (v : Int) : mm_wI (MM A E) p 39 (iI v) = MM (uA A p 39 v) E := w_any p 39 v
theorem I_40 (p : Nat) : mm_I (MM A E) p 40 = iI (A p 40) := rfl
theorem w_40 (p : Nat) (v : Int) : mm_wI (MM A E) p 40 (iI v) = MM (uA A p 40 v) E := w_any p 40 v
theorem I_41 (p : Nat) : mm_I (MM A E) p 41 = iI (A p 41) := rfl
theorem w_41 (p : Nat) (v : Int) : mm_wI (MM A E) p 41 (iI v) = MM (uA A p 41 v) E := w_any p 41 v
theorem ki_1 : mm_is (MM A E) 1 12 = true := rfl
theorem kp_1_0 : mm_P (MM A E) 1 0 = 2 := rfl
theorem kp_1_1 : mm_P (MM A E) 1 1 = 17 := rfl
theorem kp_1_2 : mm_P (MM A E) 1 2 = 32 := rfl
theorem kp_1_3 : mm_P (MM A E) 1 3 = 49 := rfl
theorem kp_1_4 : mm_P (MM A E) 1 4 = 67 := rfl
theorem kp_1_5 : mm_P (MM A E) 1 5 = 144 := rfl
theorem kp_1_6 : mm_P (MM A E) 1 6 = 149 := rfl
theorem kp_1_7 : mm_P (MM A E) 1 7 = 152 := rfl
theorem kp_1_8 : mm_P (MM A E) 1 8 = 156 := rfl
theorem kp_1_9 : mm_P (MM A E) 1 9 = 158 := rfl
theorem kp_1_10 : mm_P (MM A E) 1 10 = 160 := rfl
theorem ki_2 : mm_is (MM A E) 2 7 = true := rfl
theorem kp_2_0 : mm_P (MM A E) 2 0 = 3 := rfl
theorem kp_2_1 : mm_P (MM A E) 2 1 = 10 := rfl
theorem ki_17 : mm_is (MM A E) 17 7 = true := rfl
theorem kp_17_0 : mm_P (MM A E) 17 0 = 18 := rfl
theorem kp_17_1 : mm_P (MM A E) 17 1 = 25 := rfl
theorem ki_32 : mm_is (MM A E) 32 6 = true := rfl
theorem kp_32_0 : mm_P (MM A E) 32 0 = 33 := rfl
theorem kp_32_3 : mm_P (MM A E) 32 3 = 48 := rfl
theorem ki_33 : mm_is (MM A E) 33 7 = true := rfl
theorem kp_33_0 : mm_P (MM A E) 33 0 = 34 := rfl
theorem kp_33_1 : mm_P (MM A E) 33 1 = 41 := rfl
theorem ki_48 : mm_is (MM A E) 48 101 = true := rfl
theorem kz_48 : mm_sz (MM A E) 48 = 500 := rfl
theorem kar_48 : mm_ar (MM A E) 48 = true := rfl
theorem ki_49 : mm_is (MM A E) 49 1 = true := rfl
theorem kp_49_0 : mm_P (MM A E) 49 0 = 50 := rfl
theorem ki_50 : mm_is (MM A E) 50 104 = true := rfl
theorem kz_50 : mm_sz (MM A E) 50 = 16 := rfl
theorem kar_50 : mm_ar (MM A E) 50 = true := rfl
theorem krr_50 : mm_rr (MM A E) 50 = true := rfl
theorem ki_67 : mm_is (MM A E) 67 2 = true := rfl
theorem kp_67_0 : mm_P (MM A E) 67 0 = 2 := rfl
theorem kp_67_1 : mm_P (MM A E) 67 1 = 68 := rfl
theorem kp_67_2 : mm_P (MM A E) 67 2 = 69 := rfl
theorem kp_67_3 : mm_P (MM A E) 67 3 = 70 := rfl
theorem kp_67_4 : mm_P (MM A E) 67 4 = 71 := rfl
theorem ki_68 : mm_is (MM A E) 68 103 = true := rfl
theorem kz_68 : mm_sz (MM A E) 68 = 9 := rfl
theorem kar_68 : mm_ar (MM A E) 68 = true := rfl
theorem krr_68 : mm_rr (MM A E) 68 = true := rfl
theorem ki_69 : mm_is (MM A E) 69 103 = true := rfl
theorem kz_69 : mm_sz (MM A E) 69 = 9 := rfl
theorem kar_69 : mm_ar (MM A E) 69 = true := rfl
theorem krr_69 : mm_rr (MM A E) 69 = true := rfl
theorem ki_70 : mm_is (MM A E) 70 100 = true := rfl
theorem kz_70 : mm_sz (MM A E) 70 = 9 := rfl
theorem kar_70 : mm_ar (MM A E) 70 = true := rfl
theorem ki_71 : mm_is (MM A E) 71 100 = true := rfl
theorem kz_71 : mm_sz (MM A E) 71 = 9 := rfl
theorem kar_71 : mm_ar (MM A E) 71 = true := rfl
theorem ki_144 : mm_is (MM A E) 144 8 = true := rfl
theorem kp_144_0 : mm_P (MM A E) 144 0 = 67 := rfl
theorem kp_144_1 : mm_P (MM A E) 144 1 = 145 := rfl
theorem kp_144_2 : mm_P (MM A E) 144 2 = 146 := rfl
theorem kp_144_3 : mm_P (MM A E) 144 3 = 147 := rfl
theorem kp_144_4 : mm_P (MM A E) 144 4 = 148 := rfl
theorem ki_145 : mm_is (MM A E) 145 100 = true := rfl
theorem kz_145 : mm_sz (MM A E) 145 = 8 := rfl
theorem kar_145 : mm_ar (MM A E) 145 = true := rfl
theorem ki_146 : mm_is (MM A E) 146 100 = true := rfl
theorem kz_146 : mm_sz (MM A E) 146 = 8 := rfl
theorem kar_146 : mm_ar (MM A E) 146 = true := rfl
theorem ki_147 : mm_is (MM A E) 147 100 = true := rfl
theorem kz_147 : mm_sz (MM A E) 147 = 9 := rfl
theorem kar_147 : mm_ar (MM A E) 147 = true := rfl
theorem ki_148 : mm_is (MM A E) 148 100 = true := rfl
theorem kz_148 : mm_sz (MM A E) 148 = 8 := rfl
theorem kar_148 : mm_ar (MM A E) 148 = true := rfl
theorem ki_149 : mm_is (MM A E) 149 4 = true := rfl
theorem kp_149_0 : mm_P (MM A E) 149 0 = 2 := rfl
theorem kp_149_1 : mm_P (MM A E) 149 1 = 150 := rfl
theorem kp_149_2 : mm_P (MM A E) 149 2 = 151 := rfl
theorem ki_150 : mm_is (MM A E) 150 100 = true := rfl
theorem kz_150 : mm_sz (MM A E) 150 = 4 := rfl
theorem kar_150 : mm_ar (MM A E) 150 = true := rfl
theorem ki_151 : mm_is (MM A E) 151 100 = true := rfl
theorem kz_151 : mm_sz (MM A E) 151 = 4 := rfl
theorem kar_151 : mm_ar (MM A E) 151 = true := rfl
theorem ki_152 : mm_is (MM A E) 152 5 = true := rfl
theorem kp_152_0 : mm_P (MM A E) 152 0 = 153 := rfl
theorem kp_152_1 : mm_P (MM A E) 152 1 = 154 := rfl
theorem kp_152_2 : mm_P (MM A E) 152 2 = 155 := rfl
theorem ki_153 : mm_is (MM A E) 153 100 = true := rfl
theorem kz_153 : mm_sz (MM A E) 153 = 11 := rfl
theorem kar_153 : mm_ar (MM A E) 153 = true := rfl
theorem ki_154 : mm_is (MM A E) 154 100 = true := rfl
theorem kz_154 : mm_sz (MM A E) 154 = 11 := rfl
theorem kar_154 : mm_ar (MM A E) 154 = true := rfl
theorem ki_155 : mm_is (MM A E) 155 100 = true := rfl
theorem kz_155 : mm_sz (MM A E) 155 = 11 := rfl
theorem kar_155 : mm_ar (MM A E) 155 = true := rfl
theorem ki_156 : mm_is (MM A E) 156 3 = true := rfl
theorem kp_156_0 : mm_P (MM A E) 156 0 = 2 := rfl
theorem kp_156_1 : mm_P (MM A E) 156 1 = 67 := rfl
theorem kp_156_2 : mm_P (MM A E) 156 2 = 157 := rfl
theorem ki_157 : mm_is (MM A E) 157 100 = true := rfl
theorem kz_157 : mm_sz (MM A E) 157 = 22 := rfl
theorem kar_157 : mm_ar (MM A E) 157 = true := rfl
theorem ki_158 : mm_is (MM A E) 158 10 = true := rfl
theorem kp_158_0 : mm_P (MM A E) 158 0 = 159 := rfl
theorem ki_159 : mm_is (MM A E) 159 101 = true := rfl
theorem kz_159 : mm_sz (MM A E) 159 = 64 := rfl
theorem kar_159 : mm_ar (MM A E) 159 = true := rfl
theorem ki_160 : mm_is (MM A E) 160 100 = true := rfl
theorem kz_160 : mm_sz (MM A E) 160 = 16 := rfl
theorem kar_160 : mm_ar (MM A E) 160 = true := rfl
theorem ki_161 : mm_is (MM A E) 161 13 = true := rfl
theorem kp_161_1 : mm_P (MM A E) 161 1 = 162 := rfl
theorem kp_161_2 : mm_P (MM A E) 161 2 = 163 := rfl
theorem kp_161_3 : mm_P (MM A E) 161 3 = 164 := rfl
theorem kp_161_4 : mm_P (MM A E) 161 4 = 165 := rfl
theorem kp_161_7 : mm_P (MM A E) 161 7 = 166 := rfl
theorem kp_161_21 : mm_P (MM A E) 161 21 = 167 := rfl
theorem kp_161_22 : mm_P (MM A E) 161 22 = 168 := rfl
theorem kp_161_23 : mm_P (MM A E) 161 23 = 169 := rfl
theorem kp_161_26 : mm_P (MM A E) 161 26 = 170 := rfl
theorem kp_161_27 : mm_P (MM A E) 161 27 = 171 := rfl
theorem kp_161_28 : mm_P (MM A E) 161 28 = 172 := rfl
theorem kp_161_29 : mm_P (MM A E) 161 29 = 173 := rfl
theorem kp_161_30 : mm_P (MM A E) 161 30 = 174 := rfl
theorem kp_161_32 : mm_P (MM A E) 161 32 = 175 := rfl
theorem kp_161_33 : mm_P (MM A E) 161 33 = 176 := rfl
theorem kp_161_37 : mm_P (MM A E) 161 37 = 177 := rfl
theorem kp_161_40 : mm_P (MM A E) 161 40 = 178 := rfl
theorem ki_162 : mm_is (MM A E) 162 100 = true := rfl
theorem kz_162 : mm_sz (MM A E) 162 = 890 := rfl
theorem kar_162 : mm_ar (MM A E) 162 = true := rfl
theorem ki_163 : mm_is (MM A E) 163 100 = true := rfl
theorem kz_163 : mm_sz (MM A E) 163 = 89 := rfl
theorem kar_163 : mm_ar (MM A E) 163 = true := rfl
theorem ki_164 : mm_is (MM A E) 164 100 = true := rfl
theorem kz_164 : mm_sz (MM A E) 164 = 1424 := rfl
theorem kar_164 : mm_ar (MM A E) 164 = true := rfl
theorem ki_165 : mm_is (MM A E) 165 100 = true := rfl
theorem kz_165 : mm_sz (MM A E) 165 = 89 := rfl
theorem kar_165 : mm_ar (MM A E) 165 = true := rfl
theorem ki_166 : mm_is (MM A E) 166 101 = true := rfl
theorem kz_166 : mm_sz (MM A E) 166 = 500 := rfl
theorem kar_166 : mm_ar (MM A E) 166 = true := rfl
theorem ki_167 : mm_is (MM A E) 167 100 = true := rfl
theorem kz_167 : mm_sz (MM A E) 167 = 8 := rfl
theorem kar_167 : mm_ar (MM A E) 167 = true := rfl
theorem ki_168 : mm_is (MM A E) 168 100 = true := rfl
theorem kz_168 : mm_sz (MM A E) 168 = 8 := rfl
theorem kar_168 : mm_ar (MM A E) 168 = true := rfl
theorem ki_169 : mm_is (MM A E) 169 100 = true := rfl
theorem kz_169 : mm_sz (MM A E) 169 = 8 := rfl
theorem kar_169 : mm_ar (MM A E) 169 = true := rfl
theorem ki_170 : mm_is (MM A E) 170 100 = true := rfl
theorem kz_170 : mm_sz (MM A E) 170 = 4 := rfl
theorem kar_170 : mm_ar (MM A E) 170 = true := rfl
theorem ki_171 : mm_is (MM A E) 171 100 = true := rfl
theorem kz_171 : mm_sz (MM A E) 171 = 4 := rfl
theorem kar_171 : mm_ar (MM A E) 171 = true := rfl
theorem ki_172 : mm_is (MM A E) 172 100 = true := rfl
theorem kz_172 : mm_sz (MM A E) 172 = 16 := rfl
theorem kar_172 : mm_ar (MM A E) 172 = true := rfl
theorem ki_173 : mm_is (MM A E) 173 100 = true := rfl
theorem kz_173 : mm_sz (MM A E) 173 = 16 := rfl
theorem kar_173 : mm_ar (MM A E) 173 = true := rfl
theorem ki_174 : mm_is (MM A E) 174 100 = true := rfl
theorem kz_174 : mm_sz (MM A E) 174 = 16 := rfl
theorem kar_174 : mm_ar (MM A E) 174 = true := rfl
theorem ki_175 : mm_is (MM A E) 175 100 = true := rfl
theorem kz_175 : mm_sz (MM A E) 175 = 671 := rfl
theorem kar_175 : mm_ar (MM A E) 175 = true := rfl
theorem ki_176 : mm_is (MM A E) 176 100 = true := rfl
theorem kz_176 : mm_sz (MM A E) 176 = 11 := rfl
theorem kar_176 : mm_ar (MM A E) 176 = true := rfl
theorem ki_177 : mm_is (MM A E) 177 100 = true := rfl
theorem kz_177 : mm_sz (MM A E) 177 = 2 := rfl
theorem kar_177 : mm_ar (MM A E) 177 = true := rfl
theorem ki_178 : mm_is (MM A E) 178 101 = true := rfl
theorem kz_178 : mm_sz (MM A E) 178 = 120 := rfl
theorem kar_178 : mm_ar (MM A E) 178 = true := rfl
theorem ki_179 : mm_is (MM A E) 179 102 = true := rfl
theorem kz_179 : mm_sz (MM A E) 179 = 1 := rfl
theorem kar_179 : mm_ar (MM A E) 179 = true := rfl
/-! teams, sides, rinks, rows of acts by their places -/
def TM (T : Nat) : Prop := T = 3 ∨ T = 10 ∨ T = 18 ∨ T = 25 ∨ T = 34 ∨ T = 41
def RK (R : Nat) : Prop := R = 2 ∨ R = 17 ∨ R = 33
theorem TM_R {R : Nat} (h : RK R) : TM (R + 1) ∧ TM (R + 8) := by unfold RK at h; unfold TM; omega
section TMs
variable {T : Nat}
theorem is_T (hT : TM T) : mm_is (MM A E) T 11 = true := by rcases hT with rfl | rfl | rfl | rfl | rfl | rfl <;> rfl
theorem is_T1 (hT : TM T) : mm_is (MM A E) (T + 1) 100 = true := by rcases hT with rfl | rfl | rfl | rfl | rfl | rfl <;> rfl
theorem sz_T1 (hT : TM T) : mm_sz (MM A E) (T + 1) = 6 := by rcases hT with rfl | rfl | rfl | rfl | rfl | rfl <;> rfl
theorem P_T1 (hT : TM T) : mm_P (MM A E) T 7 = T + 1 := by rcases hT with rfl | rfl | rfl | rfl | rfl | rfl <;> rfl
theorem is_T2 (hT : TM T) : mm_is (MM A E) (T + 2) 100 = true := by rcases hT with rfl | rfl | rfl | rfl | rfl | rfl <;> rfl
theorem sz_T2 (hT : TM T) : mm_sz (MM A E) (T + 2) = 6 := by rcases hT with rfl | rfl | rfl | rfl | rfl | rfl <;> rfl
theorem P_T2 (hT : TM T) : mm_P (MM A E) T 8 = T + 2 := by rcases hT with rfl | rfl | rfl | rfl | rfl | rfl <;> rfl
theorem is_T3 (hT : TM T) : mm_is (MM A E) (T + 3) 100 = true := by rcases hT with rfl | rfl | rfl | rfl | rfl | rfl <;> rfl
theorem sz_T3 (hT : TM T) : mm_sz (MM A E) (T + 3) = 6 := by rcases hT with rfl | rfl | rfl | rfl | rfl | rfl <;> rfl
theorem P_T3 (hT : TM T) : mm_P (MM A E) T 9 = T + 3 := by rcases hT with rfl | rfl | rfl | rfl | rfl | rfl <;> rfl
theorem is_T4 (hT : TM T) : mm_is (MM A E) (T + 4) 100 = true := by rcases hT with rfl | rfl | rfl | rfl | rfl | rfl <;> rfl
theorem sz_T4 (hT : TM T) : mm_sz (MM A E) (T + 4) = 6 := by rcases hT with rfl | rfl | rfl | rfl | rfl | rfl <;> rfl
theorem P_T4 (hT : TM T) : mm_P (MM A E) T 10 = T + 4 := by rcases hT with rfl | rfl | rfl | rfl | rfl | rfl <;> rfl
theorem is_T5 (hT : TM T) : mm_is (MM A E) (T + 5) 100 = true := by rcases hT with rfl | rfl | rfl | rfl | rfl | rfl <;> rfl
theorem sz_T5 (hT : TM T) : mm_sz (MM A E) (T + 5) = 6 := by rcases hT with rfl | rfl | rfl | rfl | rfl | rfl <;> rfl
theorem P_T5 (hT : TM T) : mm_P (MM A E) T 11 = T + 5 := by rcases hT with rfl | rfl | rfl | rfl | rfl | rfl <;> rfl
theorem is_T6 (hT : TM T) : mm_is (MM A E) (T + 6) 100 = true := by rcases hT with rfl | rfl | rfl | rfl | rfl | rfl <;> rfl
theorem sz_T6 (hT : TM T) : mm_sz (MM A E) (T + 6) = 6 := by rcases hT with rfl | rfl | rfl | rfl | rfl | rfl <;> rfl
theorem P_T6 (hT : TM T) : mm_P (MM A E) T 12 = T + 6 := by rcases hT with rfl | rfl | rfl | rfl | rfl | rfl <;> rfl
end TMs
section RKs
variable {R : Nat}
theorem is_R (hR : RK R) : mm_is (MM A E) R 7 = true := by rcases hR with rfl | rfl | rfl <;> rfl
theorem P_R0 (hR : RK R) : mm_P (MM A E) R 0 = R + 1 := by rcases hR with rfl | rfl | rfl <;> rfl
theorem P_R1 (hR : RK R) : mm_P (MM A E) R 1 = R + 8 := by rcases hR with rfl | rfl | rfl <;> rfl
end RKs
/-- a side's place: of home at a level, of away -/
def sH (l : Int) : Nat := 72 + 8 * l.toNat
def sA (l : Int) : Nat := 76 + 8 * l.toNat
/-- a side and its team -/
def SD (s T : Nat) : Prop := ∃ l : Nat, l < 9 ∧ ((s = 72 + 8 * l ∧ T = 3) ∨ (s = 76 + 8 * l ∧ T = 10))
theorem SD_H {l : Int} (h : l < 9) : SD (sH l) 3 := ⟨l.toNat, by omega, .inl ⟨rfl, rfl⟩⟩
theorem SD_A {l : Int} (h : l < 9) : SD (sA l) 10 := ⟨l.toNat, by omega, .inr ⟨rfl, rfl⟩⟩
theorem SD_T {s T : Nat} (h : SD s T) : TM T := by
  obtain ⟨l, -, ⟨-, h⟩ | ⟨-, h⟩⟩ := h
  · exact .inl h
  · exact .inr (.inl h)
theorem SD_all : ∀ l : Nat, l < 9 → (SH (72 + 8 * l) = (9, 7) ∧ SH (72 + 8 * l + 1) = (100, 6) ∧ SH (72 + 8 * l + 2) = (100, 6) ∧ SH (72 + 8 * l + 3) = (100, 6) ∧ PT (72 + 8 * l) 0 = 3 ∧ PT (72 + 8 * l) 1 = 72 + 8 * l + 1 ∧ PT (72 + 8 * l) 2 = 72 + 8 * l + 2 ∧ PT (72 + 8 * l) 3 = 72 + 8 * l + 3 ∧ PT 68 l = 72 + 8 * l) ∧ (SH (76 + 8 * l) = (9, 7) ∧ SH (76 + 8 * l + 1) = (100, 6) ∧ SH (76 + 8 * l + 2) = (100, 6) ∧ SH (76 + 8 * l + 3) = (100, 6) ∧ PT (76 + 8 * l) 0 = 10 ∧ PT (76 + 8 * l) 1 = 76 + 8 * l + 1 ∧ PT (76 + 8 * l) 2 = 76 + 8 * l + 2 ∧ PT (76 + 8 * l) 3 = 76 + 8 * l + 3 ∧ PT 69 l = 76 + 8 * l) := by decide
theorem SD_v {s T : Nat} (h : SD s T) : SH s = (9, 7) ∧ SH (s + 1) = (100, 6) ∧ SH (s + 2) = (100, 6) ∧ SH (s + 3) = (100, 6) ∧ PT s 0 = T ∧ PT s 1 = s + 1 ∧ PT s 2 = s + 2 ∧ PT s 3 = s + 3 ∧ 72 ≤ s ∧ s < 144 := by
  obtain ⟨l, hl, ⟨rfl, rfl⟩ | ⟨rfl, rfl⟩⟩ := h
  · obtain ⟨a, b, c, d, e, f, g, i, -⟩ := (SD_all l hl).1
    exact ⟨a, b, c, d, e, f, g, i, by omega, by omega⟩
  · obtain ⟨a, b, c, d, e, f, g, i, -⟩ := (SD_all l hl).2
    exact ⟨a, b, c, d, e, f, g, i, by omega, by omega⟩
section SDs
variable {s T : Nat}
theorem is_S (hS : SD s T) : mm_is (MM A E) s 9 = true := by rw [is_MM, (SD_v hS).1]; rfl
theorem is_S1 (hS : SD s T) : mm_is (MM A E) (s + 1) 100 = true := by rw [is_MM, (SD_v hS).2.1]; rfl
theorem is_S2 (hS : SD s T) : mm_is (MM A E) (s + 2) 100 = true := by rw [is_MM, (SD_v hS).2.2.1]; rfl
theorem is_S3 (hS : SD s T) : mm_is (MM A E) (s + 3) 100 = true := by rw [is_MM, (SD_v hS).2.2.2.1]; rfl
theorem sz_S1 (hS : SD s T) : mm_sz (MM A E) (s + 1) = 6 := by rw [sz_MM, (SD_v hS).2.1]
theorem sz_S2 (hS : SD s T) : mm_sz (MM A E) (s + 2) = 6 := by rw [sz_MM, (SD_v hS).2.2.1]
theorem sz_S3 (hS : SD s T) : mm_sz (MM A E) (s + 3) = 6 := by rw [sz_MM, (SD_v hS).2.2.2.1]
theorem P_S0 (hS : SD s T) : mm_P (MM A E) s 0 = T := by have := SD_v hS; rw [P_MM (by omega), this.2.2.2.2.1]
theorem P_S1 (hS : SD s T) : mm_P (MM A E) s 1 = s + 1 := by have := SD_v hS; rw [P_MM (by omega), this.2.2.2.2.2.1]
theorem P_S2 (hS : SD s T) : mm_P (MM A E) s 2 = s + 2 := by have := SD_v hS; rw [P_MM (by omega), this.2.2.2.2.2.2.1]
theorem P_S3 (hS : SD s T) : mm_P (MM A E) s 3 = s + 3 := by have := SD_v hS; rw [P_MM (by omega), this.2.2.2.2.2.2.2.1]
end SDs
theorem P_68 {l : Int} (h0 : 0 ≤ l) (h1 : l < 9) : mm_P (MM A E) 68 (Int32.toNatClampNeg (iI l)) = sH l := by
  rw [iI_cl h0 (by omega), P_MM (by decide)]
  exact (SD_all l.toNat (by omega)).1.2.2.2.2.2.2.2.2
theorem P_69 {l : Int} (h0 : 0 ≤ l) (h1 : l < 9) : mm_P (MM A E) 69 (Int32.toNatClampNeg (iI l)) = sA l := by
  rw [iI_cl h0 (by omega), P_MM (by decide)]
  exact (SD_all l.toNat (by omega)).2.2.2.2.2.2.2.2.2
theorem AC_all : ∀ l : Nat, l < 16 → SH (51 + l) = (100, 22) ∧ PT 50 l = 51 + l := by decide
theorem P_50 {l : Int} (h0 : 0 ≤ l) (h1 : l < 16) : mm_P (MM A E) 50 (Int32.toNatClampNeg (iI l)) = 51 + l.toNat := by
  rw [iI_cl h0 (by omega), P_MM (by decide)]
  exact (AC_all l.toNat (by omega)).2
end MMs
