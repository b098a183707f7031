/-! ===== the state of a game seen from outside, and what calls leave as it is ===== -/
/-- the row; rows of acts, the latest first; the tape; the fault's place; the image; what was said -/
abbrev St : Type := Rw × List Rw × (Int × (Int → Int)) × Int × Option Rw × (Int × (Int → Int))
def sR (S : St) : Rw := S.1
def sK (S : St) : List Rw := S.2.1
def sN (S : St) : Int := S.2.2.1.1
def sB (S : St) : Int → Int := S.2.2.1.2
def sQ (S : St) : Int := S.2.2.2.1
def sG (S : St) : Option Rw := S.2.2.2.2.1
def sM (S : St) : Int := S.2.2.2.2.2.1
def sY (S : St) : Int → Int := S.2.2.2.2.2.2
/-- rows that differ only in what acts change -/
def Same (σ τ : Rw) : Prop := τ 2 = σ 2 ∧ ∀ t, t = 0 ∨ t = 1 → tf τ t 0 = tf σ t 0 ∧ tf τ t 1 = tf σ t 1 ∧ tf τ t 2 = tf σ t 2 ∧ ∀ u, 0 ≤ u → u < 6 → ∀ w, 0 ≤ w → w < 5 → uf τ t u w = uf σ t u w
theorem Same_refl (σ : Rw) : Same σ σ := ⟨rfl, fun _ _ => ⟨rfl, rfl, rfl, fun _ _ _ _ _ _ => rfl⟩⟩
theorem Same_symm {σ τ : Rw} (h : Same σ τ) : Same τ σ := ⟨h.1.symm, fun t ht => ⟨(h.2 t ht).1.symm, (h.2 t ht).2.1.symm, (h.2 t ht).2.2.1.symm, fun u a b w c d => ((h.2 t ht).2.2.2 u a b w c d).symm⟩⟩
theorem Same_tr {σ τ ρ : Rw} (h : Same σ τ) (g : Same τ ρ) : Same σ ρ := ⟨g.1.trans h.1, fun t ht => ⟨(g.2 t ht).1.trans (h.2 t ht).1, (g.2 t ht).2.1.trans (h.2 t ht).2.1, (g.2 t ht).2.2.1.trans (h.2 t ht).2.2.1, fun u a b w c d => ((g.2 t ht).2.2.2 u a b w c d).trans ((h.2 t ht).2.2.2 u a b w c d)⟩⟩
theorem Same_tn {σ : Rw} {x y : Int} : Same σ (tn σ x y) := ⟨tn_2, fun t ht => ⟨tn_f0 ht, tn_f1 ht, tn_f2 ht, fun u a b w c d => tn_u ht a b c d⟩⟩
theorem Same_un {σ τ : Rw} {t : Int} (h : Same σ τ) (ht : t = 0 ∨ t = 1) : un τ t = un σ t := by unfold un; rw [(h.2 t ht).1, (h.2 t ht).2.1]
theorem un_6 {σ : Rw} {t : Int} (hw : wT σ t) : 1 ≤ un σ t ∧ un σ t ≤ 6 := by
  have := hw.1
  have := hw.2.1
  unfold un; omega
theorem TS_same {A : Am} {T : Nat} {σ τ : Rw} {t : Int} (h : Same σ τ) (ht : t = 0 ∨ t = 1) (hw : wT σ t) (g : TS A T σ t) : TS A T τ t := by
  obtain ⟨g0, g1, g2, g3⟩ := g
  obtain ⟨k0, k1, k2, k3⟩ := h.2 t ht
  have := un_6 hw
  refine ⟨g0.trans k0.symm, g1.trans k1.symm, g2.trans k2.symm, fun u a b => ?_⟩
  rw [Same_un h ht] at b
  rw [k3 u a (by omega) 0 (by decide) (by decide), k3 u a (by omega) 1 (by decide) (by decide), k3 u a (by omega) 2 (by decide) (by decide), k3 u a (by omega) 3 (by decide) (by decide), k3 u a (by omega) 4 (by decide) (by decide)]
  exact g3 u a b
/-- as it may be -/
def WS (S : St) : Prop := WF (sR S) ∧ (sK S).length ≤ 16 ∧ (∀ τ ∈ sK S, WF τ ∧ Same (sR S) τ) ∧ (0 ≤ sN S ∧ sN S ≤ 500) ∧ (∀ i, 0 ≤ i → i < sN S → -128 ≤ sB S i ∧ sB S i ≤ 127) ∧ (-1 ≤ sQ S ∧ sQ S ≤ 1000) ∧ (∀ τ, sG S = some τ → WF τ) ∧ (0 ≤ sM S ∧ sM S ≤ 64) ∧ ∀ i, 0 ≤ i → i < sM S → -128 ≤ sY S i ∧ sY S i ≤ 127
/-! the class -/
def TeamRow (A : Am) (p : Nat) (o : Int) (τ : Rw) (t : Int) : Prop := A p o = tf τ t 3 ∧ A p (o + 1) = tf τ t 4 ∧ A p (o + 2) = tf τ t 6 ∧ A p (o + 3) = tf τ t 5 ∧ ∀ u, 0 ≤ u → u < un τ t → A p (o + 4 + u) = uf τ t u 5
def RowC (A : Am) (p : Nat) (τ : Rw) : Prop := A p 0 = τ 0 ∧ A p 1 = τ 1 ∧ TeamRow A p 2 τ 0 ∧ TeamRow A p 12 τ 1
def ActsC (A : Am) (K : List Rw) : Prop := A 49 2 = (K.length : Int) ∧ (0 ≤ A 49 1 ∧ A 49 1 < 16) ∧ ∀ (i : Nat) (τ : Rw), K[i]? = some τ → RowC A (51 + ((A 49 1 - 1 - (i : Int)) % 16).toNat) τ
def CI (A : Am) (S : St) : Prop := RinkAt A 2 (sR S) ∧ ActsC A (sK S) ∧ (A 32 1 = sN S ∧ ∀ i, 0 ≤ i → i < sN S → A 48 i = sB S i) ∧ A 1 12 = sQ S ∧ (A 1 11 = (if (sG S).isSome then 1 else 0) ∧ ∀ τ, sG S = some τ → RinkAt A 17 τ) ∧ A 158 1 = sM S ∧ ∀ i, 0 ≤ i → i < sM S → A 159 i = sY S i
def MI (A : Am) (S : St) : Prop := RowAt A 0 (sR S) ∧ (A 161 6 = ((sK S).length : Int) ∧ ∀ (i : Nat) (τ : Rw), (sK S)[i]? = some τ → ∀ j, 0 ≤ j → j < 89 → A 164 (89 * (((sK S).length : Int) - 1 - i) + j) = τ j) ∧ (A 161 8 = sN S ∧ ∀ i, 0 ≤ i → i < sN S → A 166 i = sB S i) ∧ A 161 17 = sQ S ∧ (A 161 5 = (if (sG S).isSome then 1 else 0) ∧ ∀ τ, sG S = some τ → ∀ j, 0 ≤ j → j < 89 → A 165 j = τ j) ∧ A 161 41 = sM S ∧ ∀ i, 0 ≤ i → i < sM S → A 178 i = sY S i
/-- what asking leaves as it is -/
def FrC (A A' : Am) : Prop := ∀ p, p < 67 ∨ p = 158 ∨ p = 159 ∨ 160 < p → A' p = A p
def FrM (A A' : Am) : Prop := (∀ p, p < 161 ∨ p = 164 ∨ p = 165 ∨ p = 166 ∨ 177 < p → A' p = A p) ∧ (∀ j, j = 5 ∨ j = 6 ∨ j = 8 ∨ j = 17 ∨ j = 41 → A' 161 j = A 161 j) ∧ ∀ j, 0 ≤ j → j < 89 → A' 162 j = A 162 j
def EE (E E' : En) : Prop := eO E' = eO E ∧ eL E' = eL E ∧ eJ E' 179 0 = eJ E 179 0 ∧ eX E' ≤ eX E + 1 ∧ eS E' ≤ eS E + 6
theorem FrC_refl (A : Am) : FrC A A := fun _ _ => rfl
theorem FrC_tr {A B C : Am} (h : FrC A B) (g : FrC B C) : FrC A C := fun p hp => (g p hp).trans (h p hp)
theorem FrM_refl (A : Am) : FrM A A := ⟨fun _ _ => rfl, fun _ _ => rfl, fun _ _ _ => rfl⟩
theorem FrM_tr {A B C : Am} (h : FrM A B) (g : FrM B C) : FrM A C := ⟨fun p hp => (g.1 p hp).trans (h.1 p hp), fun j hj => (g.2.1 j hj).trans (h.2.1 j hj), fun j a b => (g.2.2 j a b).trans (h.2.2 j a b)⟩
theorem FrM_V {A B : Am} (h : AgV 0 A B) : FrM A B := ⟨fun p hp => h.1 p (by omega) (by omega), fun j hj => h.2.1 j (by omega) (by omega), fun j a b => h.2.2 j (by omega)⟩
theorem FrM_u {A : Am} {k v : Int} (h : k ≠ 5 ∧ k ≠ 6 ∧ k ≠ 8 ∧ k ≠ 17 ∧ k ≠ 41) : FrM A (uA A 161 k v) := ⟨fun p hp => uA_P (by omega), fun j hj => uA_k _ (by omega), fun j a b => uA_p _ _ _ (by decide)⟩
theorem FrM_p {A : Am} {p : Nat} {k v : Int} (h : p = 163 ∨ (166 < p ∧ p < 178)) : FrM A (uA A p k v) := ⟨fun q hq => uA_P (by omega), fun j hj => uA_p _ _ _ (by omega), fun j a b => uA_p _ _ _ (by omega)⟩
theorem EE_refl (E : En) : EE E E := ⟨rfl, rfl, rfl, by omega, by omega⟩
theorem EE_th (E : En) : EE E (thE E) := ⟨rfl, rfl, rfl, Nat.le_refl _, Nat.le_refl _⟩
theorem EE_A (E : En) (f : Int) : EE E (eA E f) := ⟨rfl, rfl, rfl, Nat.le_succ _, Nat.le_add_right _ _⟩
/-- like EE, with nothing thrown -/
def E0 (E E' : En) : Prop := eO E' = eO E ∧ eL E' = eL E ∧ eJ E' 179 0 = eJ E 179 0 ∧ eX E' = eX E ∧ eS E' = eS E
theorem E0_refl (E : En) : E0 E E := ⟨rfl, rfl, rfl, rfl, rfl⟩
theorem E0_A (E : En) (f : Int) : E0 E (eA E f) := ⟨rfl, rfl, rfl, rfl, rfl⟩
theorem E0_tr {E F G : En} (h : E0 E F) (g : E0 F G) : E0 E G := ⟨g.1.trans h.1, g.2.1.trans h.2.1, g.2.2.1.trans h.2.2.1, g.2.2.2.1.trans h.2.2.2.1, g.2.2.2.2.trans h.2.2.2.2⟩
theorem EE_0 {E F : En} (h : E0 E F) : EE E F := ⟨h.1, h.2.1, h.2.2.1, by rw [h.2.2.2.1]; omega, by rw [h.2.2.2.2]; omega⟩
theorem EE_0t {E F G : En} (h : E0 E F) (g : EE F G) : EE E G := ⟨g.1.trans h.1, g.2.1.trans h.2.1, g.2.2.1.trans h.2.2.1, by have := g.2.2.2.1; rw [h.2.2.2.1] at this; exact this, by have := g.2.2.2.2; rw [h.2.2.2.2] at this; exact this⟩
theorem RowC_fr {A A' : Am} {p : Nat} {τ : Rw} (h : RowC A p τ) (f : A' p = A p) : RowC A' p τ := by
  unfold RowC TeamRow
  rw [f]
  exact h
theorem ActsC_fr {A A' : Am} {K : List Rw} (h : ActsC A K) (f : ∀ p, 49 ≤ p → p < 67 → A' p = A p) : ActsC A' K := by
  obtain ⟨h1, h2, h3⟩ := h
  have e := f 49 (by decide) (by decide)
  unfold ActsC
  rw [e]
  exact ⟨h1, h2, fun i τ hi => RowC_fr (h3 i τ hi) (f _ (by omega) (by omega))⟩
theorem CI_fr {A A' : Am} {S : St} (h : CI A S) (f : FrC A A') : CI A' S := by
  obtain ⟨h1, h2, h3, h4, h5, h6⟩ := h
  refine ⟨RinkAt_fr h1 (fun p _ _ => f p (by omega)), ActsC_fr h2 (fun p _ _ => f p (by omega)), ?_, ?_, ?_, ?_⟩
  · rw [f 32 (by omega), f 48 (by omega)]; exact h3
  · rw [f 1 (by omega)]; exact h4
  · rw [f 1 (by omega)]; exact ⟨h5.1, fun τ hτ => RinkAt_fr (h5.2 τ hτ) (fun p _ _ => f p (by omega))⟩
  · rw [f 158 (by omega), f 159 (by omega)]; exact h6
theorem MI_fr {A A' : Am} {S : St} (h : MI A S) (f : FrM A A') : MI A' S := by
  obtain ⟨h1, h2, h3, h4, h5, h6⟩ := h
  obtain ⟨f1, f2, f3⟩ := f
  refine ⟨fun j a b => ?_, ?_, ?_, ?_, ?_, ?_⟩
  · have := h1 j a b
    rw [f3 _ (by omega) (by omega)]; exact this
  · rw [f2 6 (by omega), f1 164 (by omega)]; exact h2
  · rw [f2 8 (by omega), f1 166 (by omega)]; exact h3
  · rw [f2 17 (by omega)]; exact h4
  · rw [f2 5 (by omega), f1 165 (by omega)]; exact h5
  · rw [f2 41 (by omega), f1 178 (by omega)]; exact h6
/-- the class's side of what the model does, and the other way -/
theorem CI_m {A A' : Am} {S : St} (h : CI A S) (f : ∀ p, p < 161 → A' p = A p) : CI A' S := by
  obtain ⟨h1, h2, h3, h4, h5, h6⟩ := h
  refine ⟨RinkAt_fr h1 (fun p _ _ => f p (by omega)), ActsC_fr h2 (fun p _ _ => f p (by omega)), ?_, ?_, ?_, ?_⟩
  · rw [f 32 (by omega), f 48 (by omega)]; exact h3
  · rw [f 1 (by omega)]; exact h4
  · rw [f 1 (by omega)]; exact ⟨h5.1, fun τ hτ => RinkAt_fr (h5.2 τ hτ) (fun p _ _ => f p (by omega))⟩
  · rw [f 158 (by omega), f 159 (by omega)]; exact h6
theorem MI_c {A A' : Am} {S : St} (h : MI A S) (f : ∀ p, 160 < p → A' p = A p) : MI A' S := by
  obtain ⟨h1, h2, h3, h4, h5, h6⟩ := h
  unfold MI RowAt
  rw [f 161 (by omega), f 162 (by omega), f 164 (by omega), f 165 (by omega), f 166 (by omega), f 178 (by omega)]
  exact ⟨h1, h2, h3, h4, h5, h6⟩
/-! outcomes -/
def oR (o : Int ⊕ Nat) : Option Value ⊕ Nat := match o with
  | .inl v => .inl (some (.int (iI v)))
  | .inr e => .inr e
/-- what the model notes of an exception: m where the law's number of an IllegalArgumentException is m -/
def thr (m : Int) (o : Int ⊕ Nat) : Int := match o with
  | .inl _ => 0
  | .inr 1 => m
  | .inr _ => 1
