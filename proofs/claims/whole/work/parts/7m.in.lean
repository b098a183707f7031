/-! ===== places as a table, while the constructors run ===== -/
section IN
def nu : Nat × Nat × List Nat := (0, 0, [])
abbrev Gt : Type := List (Nat × Nat × List Nat)
def ob (g : Gt) (a : Nat) : Nat × Nat × List Nat := (nu :: g).getD a nu
def gP (g : Gt) (a k : Nat) : Nat := (ob g a).2.2.getD k 0
def kd (g : Gt) (a : Nat) : Nat := (ob g a).1
def zz (g : Gt) (a : Nat) : Nat := (ob g a).2.1
/-- the table, the whole numbers, the slots -/
abbrev Wd : Type := Gt × Am × Nat
def TW (w : Wd) (O : UInt32 → Nat → Int32) (L : UInt32 → Nat) : mm_M := (fun p k => iI (w.2.1 p k), fun _ _ => 0, fun a k => gP w.1 a k, fun a => (kd w.1 a, zz w.1 a), O, L, w.1.length, 0, w.2.2)
def sk (l : List Nat) (k v : Nat) : List Nat := if k < l.length then l.set k v else l ++ (List.replicate (k - l.length) 0 ++ [v])
def sPt (g : Gt) (a k v : Nat) : Gt := if a = 0 then g else g.set (a - 1) (kd g a, zz g a, sk (ob g a).2.2 k v)
def zA (A : Am) (q : Nat) : Am := fun p k => if p = q then 0 else A p k
def oAl (t z : Nat) (w : Wd) : Wd := (w.1 ++ [(t, z, [])], zA w.2.1 (w.1.length + 1), w.2.2 + z)
def oP (a k v : Nat) (w : Wd) : Wd := (sPt w.1 a k v, w.2)
def oI (a : Nat) (k v : Int) (w : Wd) : Wd := (w.1, uA w.2.1 a k v, w.2.2)
def oA2 (z y : Nat) (w : Wd) : Wd := (w.1 ++ ((104, z, (List.range z).map (fun j => w.1.length + 2 + j)) :: List.replicate z (100, y, [])), fun p k => if w.1.length < p ∧ p ≤ w.1.length + 1 + z then 0 else w.2.1 p k, w.2.2 + z + z * y)
theorem sk_g (l : List Nat) (k v j : Nat) : (sk l k v).getD j 0 = if j = k then v else l.getD j 0 := by
  unfold sk
  simp only [List.getD_eq_getElem?_getD]
  split
  · rename_i h
    rw [List.getElem?_set]
    by_cases c : j = k
    · subst c
      rw [if_pos rfl, if_pos rfl, if_pos h]
      rfl
    · rw [if_neg (fun e => c e.symm), if_neg c]
  · rename_i h
    by_cases c : j < l.length
    · rw [List.getElem?_append_left c, if_neg (by omega)]
    · rw [List.getElem?_append_right (by omega)]
      by_cases q : j = k
      · subst q
        rw [if_pos rfl, List.getElem?_append_right (by rw [List.length_replicate]; omega), List.length_replicate, Nat.sub_self]
        rfl
      · rw [if_neg q, List.getElem?_eq_none (l := l) (by omega)]
        by_cases q2 : j < k
        · rw [List.getElem?_append_left (by rw [List.length_replicate]; omega), List.getElem?_replicate, if_pos (by omega)]
          rfl
        · rw [List.getElem?_append_right (by rw [List.length_replicate]; omega), List.length_replicate]
          rw [List.getElem?_eq_none (by show 1 ≤ _; omega)]
theorem ob_s (g : Gt) (a : Nat) : ob g (a + 1) = (g[a]?).getD nu := by
  unfold ob
  rw [List.getD_cons_succ, List.getD_eq_getElem?_getD]
theorem ob_al (g : Gt) (x : Nat × Nat × List Nat) (a : Nat) : ob (g ++ [x]) a = if a = g.length + 1 then x else ob g a := by
  cases a with
  | zero => rfl
  | succ a =>
    rw [ob_s, ob_s]
    by_cases c : a < g.length
    · rw [List.getElem?_append_left c, if_neg (by omega)]
    · rw [List.getElem?_append_right (by omega)]
      by_cases q : a = g.length
      · subst q
        rw [if_pos rfl, Nat.sub_self]
        rfl
      · rw [if_neg (by omega), List.getElem?_eq_none (l := g) (by omega), List.getElem?_eq_none (by show 1 ≤ _; omega)]
theorem ob_sP {g : Gt} {a : Nat} (k v b : Nat) (h0 : 0 < a) (h1 : a ≤ g.length) : ob (sPt g a k v) b = if b = a then (kd g a, zz g a, sk (ob g a).2.2 k v) else ob g b := by
  unfold sPt
  rw [if_neg (by omega)]
  cases b with
  | zero => rw [if_neg (by omega)]; rfl
  | succ b =>
    rw [ob_s, List.getElem?_set]
    by_cases c : b + 1 = a
    · rw [if_pos (by omega), if_pos (by omega), if_pos c]
      rfl
    · rw [if_neg (by omega), if_neg c, ob_s]
theorem kd_sP (g : Gt) (a k v b : Nat) : kd (sPt g a k v) b = kd g b := by
  by_cases h : 0 < a ∧ a ≤ g.length
  · unfold kd
    rw [ob_sP k v b h.1 h.2]
    split
    · rename_i e
      subst e
      rfl
    · rfl
  · unfold sPt
    split
    · rfl
    · rw [List.set_eq_of_length_le (by omega)]
theorem zz_sP (g : Gt) (a k v b : Nat) : zz (sPt g a k v) b = zz g b := by
  by_cases h : 0 < a ∧ a ≤ g.length
  · unfold zz
    rw [ob_sP k v b h.1 h.2]
    split
    · rename_i e
      subst e
      rfl
    · rfl
  · unfold sPt
    split
    · rfl
    · rw [List.set_eq_of_length_le (by omega)]
theorem gP_sP {g : Gt} {a : Nat} (k v b j : Nat) (h0 : 0 < a) (h1 : a ≤ g.length) : gP (sPt g a k v) b j = if b = a ∧ j = k then v else gP g b j := by
  unfold gP
  rw [ob_sP k v b h0 h1]
  by_cases c : b = a
  · subst c
    rw [if_pos rfl]
    show (sk (ob g b).2.2 k v).getD j 0 = _
    rw [sk_g]
    by_cases q : j = k
    · rw [if_pos q, if_pos ⟨rfl, q⟩]
    · rw [if_neg q, if_neg (fun z => q z.2)]
  · rw [if_neg c, if_neg (fun z => c z.1)]
theorem ln_sP (g : Gt) (a k v : Nat) : (sPt g a k v).length = g.length := by
  unfold sPt
  split
  · rfl
  · rw [List.length_set]
variable {w : Wd} {O : UInt32 → Nat → Int32} {L : UInt32 → Nat}
theorem ln_A (t z : Nat) : (oAl t z w).1.length = w.1.length + 1 := by
  show (w.1 ++ [(t, z, [])]).length = _
  rw [List.length_append]
  rfl
theorem ln_P (a k v : Nat) : (oP a k v w).1.length = w.1.length := ln_sP _ _ _ _
theorem ln_I (a : Nat) (k v : Int) : (oI a k v w).1.length = w.1.length := rfl
theorem ln_2 (z y : Nat) : (oA2 z y w).1.length = w.1.length + 1 + z := by
  show (w.1 ++ _).length = _
  rw [List.length_append, List.length_cons, List.length_replicate]
  omega
theorem kd_A (t z a : Nat) : kd (oAl t z w).1 a = if a = w.1.length + 1 then t else kd w.1 a := by
  show (ob (w.1 ++ [(t, z, [])]) a).1 = _
  rw [ob_al]
  split <;> rfl
theorem zz_A (t z a : Nat) : zz (oAl t z w).1 a = if a = w.1.length + 1 then z else zz w.1 a := by
  show (ob (w.1 ++ [(t, z, [])]) a).2.1 = _
  rw [ob_al]
  split <;> rfl
theorem gP_A (t z a k : Nat) : gP (oAl t z w).1 a k = if a = w.1.length + 1 then 0 else gP w.1 a k := by
  show (ob (w.1 ++ [(t, z, [])]) a).2.2.getD k 0 = _
  rw [ob_al]
  split
  · rfl
  · rfl
theorem kd_P (a k v b : Nat) : kd (oP a k v w).1 b = kd w.1 b := kd_sP _ _ _ _ _
theorem zz_P (a k v b : Nat) : zz (oP a k v w).1 b = zz w.1 b := zz_sP _ _ _ _ _
theorem gP_P {a : Nat} (k v b j : Nat) (h0 : 0 < a) (h1 : a ≤ w.1.length) : gP (oP a k v w).1 b j = if b = a ∧ j = k then v else gP w.1 b j := gP_sP _ _ _ _ h0 h1
theorem kd_I (a : Nat) (k v : Int) (b : Nat) : kd (oI a k v w).1 b = kd w.1 b := rfl
theorem zz_I (a : Nat) (k v : Int) (b : Nat) : zz (oI a k v w).1 b = zz w.1 b := rfl
theorem gP_I (a : Nat) (k v : Int) (b j : Nat) : gP (oI a k v w).1 b j = gP w.1 b j := rfl
theorem al_TW (t z : Nat) : mm_al (TW w O L) t z = TW (oAl t z w) O L := by
  have e1 : (fun (b j : Nat) => if b = w.1.length + 1 then (0 : Int32) else iI (w.2.1 b j)) = fun (p k : Nat) => iI ((oAl t z w).2.1 p k) := by
    funext b j
    show _ = iI (if b = w.1.length + 1 then 0 else w.2.1 b j)
    split <;> rfl
  have e2 : (fun (b j : Nat) => if b = w.1.length + 1 then (0 : Int64) else 0) = fun _ _ => 0 := by
    funext b j
    split <;> rfl
  have e3 : (fun b j => if b = w.1.length + 1 then 0 else gP w.1 b j) = fun a k => gP (oAl t z w).1 a k := by
    funext b j
    rw [gP_A]
  have e4 : (fun b => if b = w.1.length + 1 then (t, z) else (kd w.1 b, zz w.1 b)) = fun a => (kd (oAl t z w).1 a, zz (oAl t z w).1 a) := by
    funext b
    rw [kd_A, zz_A]
    split <;> rfl
  show (((fun (b j : Nat) => if b = w.1.length + 1 then (0 : Int32) else iI (w.2.1 b j)), (fun (b j : Nat) => if b = w.1.length + 1 then (0 : Int64) else 0), (fun b j => if b = w.1.length + 1 then 0 else gP w.1 b j), (fun b => if b = w.1.length + 1 then (t, z) else (kd w.1 b, zz w.1 b)), O, L, w.1.length + 1, 0, w.2.2 + z) : mm_M) = TW (oAl t z w) O L
  rw [e1, e2, e3, e4]
  unfold TW
  rw [ln_A]
  rfl
theorem wP_TW {a : Nat} (k v : Nat) (h0 : 0 < a) (h1 : a ≤ w.1.length) : mm_wP (TW w O L) a k v = TW (oP a k v w) O L := by
  have e3 : (fun b j => if b = a ∧ j = k then v else gP w.1 b j) = fun b j => gP (oP a k v w).1 b j := by
    funext b j
    rw [gP_P _ _ _ _ h0 h1]
  have e4 : (fun b => (kd w.1 b, zz w.1 b)) = fun b => (kd (oP a k v w).1 b, zz (oP a k v w).1 b) := by
    funext b
    rw [kd_P, zz_P]
  show (((fun (p k : Nat) => iI (w.2.1 p k)), (fun _ _ => 0), (fun b j => if b = a ∧ j = k then v else gP w.1 b j), (fun b => (kd w.1 b, zz w.1 b)), O, L, w.1.length, 0, w.2.2) : mm_M) = TW (oP a k v w) O L
  rw [e3, e4]
  unfold TW
  rw [ln_P]
  rfl
theorem wI_TW (a k : Nat) (v : Int) : mm_wI (TW w O L) a k (iI v) = TW (oI a (k : Int) v w) O L := by
  have e1 : (fun (b j : Nat) => if b = a ∧ j = k then iI v else iI (w.2.1 b j)) = fun (p k' : Nat) => iI ((oI a (k : Int) v w).2.1 p k') := by
    funext b j
    show _ = iI (uA w.2.1 a k v b j)
    unfold uA
    by_cases c : b = a ∧ j = k
    · rw [if_pos c, if_pos ⟨c.1, by rw [c.2]⟩]
    · rw [if_neg c, if_neg (fun z => c ⟨z.1, by have := z.2; omega⟩)]
  show (((fun (b j : Nat) => if b = a ∧ j = k then iI v else iI (w.2.1 b j)), (fun _ _ => 0), (fun a k => gP w.1 a k), (fun b => (kd w.1 b, zz w.1 b)), O, L, w.1.length, 0, w.2.2) : mm_M) = TW (oI a (k : Int) v w) O L
  rw [e1]
  rfl
theorem A2_TW (z y : Nat) : mm_al2 (TW w O L) z y = TW (oA2 z y w) O L := by
  have eo : ∀ b, ob (oA2 z y w).1 b = if b = w.1.length + 1 then (104, z, (List.range z).map (fun j => w.1.length + 2 + j)) else if w.1.length + 1 < b ∧ b ≤ w.1.length + 1 + z then (100, y, []) else ob w.1 b := by
    intro b
    cases b with
    | zero => rw [if_neg (by omega), if_neg (by omega)]; rfl
    | succ b =>
      rw [ob_s, ob_s]
      show ((w.1 ++ ((104, z, (List.range z).map (fun j => w.1.length + 2 + j)) :: List.replicate z (100, y, [])))[b]?).getD nu = _
      by_cases c : b < w.1.length
      · rw [List.getElem?_append_left c, if_neg (by omega), if_neg (by omega)]
      · rw [List.getElem?_append_right (by omega)]
        by_cases q : b = w.1.length
        · subst q
          rw [if_pos rfl, Nat.sub_self]
          rfl
        · obtain ⟨m, hm⟩ : ∃ m, b - w.1.length = m + 1 := ⟨b - w.1.length - 1, by omega⟩
          rw [if_neg (by omega), hm, List.getElem?_cons_succ, List.getElem?_replicate]
          by_cases q2 : m < z
          · rw [if_pos q2, if_pos (by omega)]
            rfl
          · rw [if_neg q2, if_neg (by omega), List.getElem?_eq_none (l := w.1) (by omega)]
  have e1 : (fun (b j : Nat) => if w.1.length < b ∧ b ≤ w.1.length + 1 + z then (0 : Int32) else iI (w.2.1 b j)) = fun (p k : Nat) => iI ((oA2 z y w).2.1 p k) := by
    funext b j
    show _ = iI (if w.1.length < b ∧ b ≤ w.1.length + 1 + z then 0 else w.2.1 b j)
    split <;> rfl
  have e3 : (fun b j => if b = w.1.length + 1 then (if j < z then w.1.length + 2 + j else 0) else gP w.1 b j) = fun a k => gP (oA2 z y w).1 a k := by
    funext b j
    unfold gP
    rw [eo]
    by_cases c : b = w.1.length + 1
    · rw [if_pos c, if_pos c, List.getD_eq_getElem?_getD, List.getElem?_map]
      by_cases q : j < z
      · rw [if_pos q, List.getElem?_range q]
        rfl
      · rw [if_neg q, List.getElem?_eq_none (by rw [List.length_range]; omega)]
        rfl
    · rw [if_neg c, if_neg c]
      by_cases q : w.1.length + 1 < b ∧ b ≤ w.1.length + 1 + z
      · obtain ⟨m, rfl⟩ : ∃ m, b = m + 1 := ⟨b - 1, by omega⟩
        rw [if_pos q, ob_s, List.getElem?_eq_none (by omega)]
        rfl
      · rw [if_neg q]
  have e4 : (fun b => if b = w.1.length + 1 then (104, z) else if w.1.length + 1 < b ∧ b ≤ w.1.length + 1 + z then (100, y) else (kd w.1 b, zz w.1 b)) = fun a => (kd (oA2 z y w).1 a, zz (oA2 z y w).1 a) := by
    funext b
    unfold kd zz
    rw [eo]
    split
    · rfl
    · split <;> rfl
  show (((fun (b j : Nat) => if w.1.length < b ∧ b ≤ w.1.length + 1 + z then (0 : Int32) else iI (w.2.1 b j)), (fun _ _ => 0), (fun b j => if b = w.1.length + 1 then (if j < z then w.1.length + 2 + j else 0) else gP w.1 b j), (fun b => if b = w.1.length + 1 then (104, z) else if w.1.length + 1 < b ∧ b ≤ w.1.length + 1 + z then (100, y) else (kd w.1 b, zz w.1 b)), O, L, w.1.length + 1 + z, 0, w.2.2 + z + z * y) : mm_M) = TW (oA2 z y w) O L
  rw [e1, e3, e4]
  unfold TW
  rw [ln_2]
  rfl
theorem is_TW (a t : Nat) : mm_is (TW w O L) a t = decide (kd w.1 a = t) := rfl
theorem sz_TW (a : Nat) : mm_sz (TW w O L) a = zz w.1 a := rfl
theorem P_TW (a k : Nat) : mm_P (TW w O L) a k = gP w.1 a k := rfl
theorem n_TW : mm_n (TW w O L) = w.1.length := rfl
theorem x_TW : mm_x (TW w O L) = 0 := rfl
theorem ok_TW (a t n : Nat) : mm_ok (TW w O L) a t n = decide ((kd w.1 a, zz w.1 a) = (t, n)) := rfl
end IN
