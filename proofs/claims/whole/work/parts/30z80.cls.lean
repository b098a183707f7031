/-! ===== the classes whose objects the worlds hold: fields, types ===== -/
def zR_Acts : String := "LastChange$Acts"
def zF_Acts : u_T := fun k => match k with
  | 0 => ("LastChange$Acts", "rows", "[[I", true)
  | 1 => ("LastChange$Acts", "next", "I", false)
  | _ => ("LastChange$Acts", "size", "I", false)
def zT_Acts : Nat → FieldType := fun k => match k with
  | 0 => .array (.array (.int))
  | 1 => .int
  | _ => .int
def zR_Ahead : String := "LastChange$Ahead"
def zF_Ahead : u_T := fun k => match k with
  | 0 => ("LastChange$Ahead", "rink", "LLastChange$Rink;", true)
  | 1 => ("LastChange$Ahead", "home", "[LLastChange$Side;", true)
  | 2 => ("LastChange$Ahead", "away", "[LLastChange$Side;", true)
  | 3 => ("LastChange$Ahead", "bestFirst", "[I", true)
  | 4 => ("LastChange$Ahead", "bestReply", "[I", true)
  | 5 => ("LastChange$Ahead", "firsts", "[LLastChange$Side;", false)
  | 6 => ("LastChange$Ahead", "seers", "[LLastChange$Side;", false)
  | 7 => ("LastChange$Ahead", "firstBase", "I", false)
  | 8 => ("LastChange$Ahead", "seerBase", "I", false)
  | _ => ("LastChange$Ahead", "sign", "I", false)
def zT_Ahead : Nat → FieldType := fun k => match k with
  | 0 => .object "LastChange$Rink"
  | 1 => .array (.object "LastChange$Side")
  | 2 => .array (.object "LastChange$Side")
  | 3 => .array (.int)
  | 4 => .array (.int)
  | 5 => .array (.object "LastChange$Side")
  | 6 => .array (.object "LastChange$Side")
  | 7 => .int
  | 8 => .int
  | _ => .int
def zR_Games : String := "LastChange$Games"
def zF_Games : u_T := fun k => match k with
  | 0 => ("LastChange$Games", "rink", "LLastChange$Rink;", true)
  | 1 => ("LastChange$Games", "ahead", "LLastChange$Ahead;", true)
  | 2 => ("LastChange$Games", "now", "[I", true)
  | 3 => ("LastChange$Games", "drawn", "I", false)
  | 4 => ("LastChange$Games", "homeSent", "I", false)
  | _ => ("LastChange$Games", "awaySent", "I", false)
def zT_Games : Nat → FieldType := fun k => match k with
  | 0 => .object "LastChange$Rink"
  | 1 => .object "LastChange$Ahead"
  | 2 => .array (.int)
  | 3 => .int
  | 4 => .int
  | _ => .int
def zR_Giving : String := "LastChange$Giving"
def zF_Giving : u_T := fun k => match k with
  | 0 => ("LastChange$Giving", "rink", "LLastChange$Rink;", true)
  | 1 => ("LastChange$Giving", "trial", "[I", true)
  | 2 => ("LastChange$Giving", "chosen", "[I", true)
  | _ => ("LastChange$Giving", "most", "I", false)
def zT_Giving : Nat → FieldType := fun k => match k with
  | 0 => .object "LastChange$Rink"
  | 1 => .array (.int)
  | 2 => .array (.int)
  | _ => .int
def zR_Pull : String := "LastChange$Pull"
def zF_Pull : u_T := fun k => match k with
  | 0 => ("LastChange$Pull", "odds", "[I", true)
  | 1 => ("LastChange$Pull", "latest", "[I", true)
  | _ => ("LastChange$Pull", "before", "[I", true)
def zT_Pull : Nat → FieldType := fun k => match k with
  | 0 => .array (.int)
  | 1 => .array (.int)
  | _ => .array (.int)
def zR_Reader : String := "LastChange$Reader"
def zF_Reader : u_T := fun k => match k with
  | 0 => ("LastChange$Reader", "told", "LLastChange$Rink;", true)
  | 1 => ("LastChange$Reader", "size", "I", false)
  | 2 => ("LastChange$Reader", "place", "I", false)
  | 3 => ("LastChange$Reader", "tape", "[B", true)
  | 4 => ("LastChange$Reader", "end", "I", false)
  | 5 => ("LastChange$Reader", "at", "I", false)
  | 6 => ("LastChange$Reader", "start", "I", false)
  | 7 => ("LastChange$Reader", "kind", "I", false)
  | 8 => ("LastChange$Reader", "number", "I", false)
  | 9 => ("LastChange$Reader", "wanted", "I", false)
  | 10 => ("LastChange$Reader", "teams", "I", false)
  | _ => ("LastChange$Reader", "unit", "I", false)
def zT_Reader : Nat → FieldType := fun k => match k with
  | 0 => .object "LastChange$Rink"
  | 1 => .int
  | 2 => .int
  | 3 => .array (.byte)
  | 4 => .int
  | 5 => .int
  | 6 => .int
  | 7 => .int
  | 8 => .int
  | 9 => .int
  | 10 => .int
  | _ => .int
def zR_Rink : String := "LastChange$Rink"
def zF_Rink : u_T := fun k => match k with
  | 0 => ("LastChange$Rink", "home", "LLastChange$Team;", true)
  | 1 => ("LastChange$Rink", "away", "LLastChange$Team;", true)
  | 2 => ("LastChange$Rink", "clock", "I", false)
  | 3 => ("LastChange$Rink", "last", "I", false)
  | _ => ("LastChange$Rink", "extra", "I", false)
def zT_Rink : Nat → FieldType := fun k => match k with
  | 0 => .object "LastChange$Team"
  | 1 => .object "LastChange$Team"
  | 2 => .int
  | 3 => .int
  | _ => .int
def zR_Rotation : String := "LastChange$Rotation"
def zF_Rotation : u_T := fun k => match k with
  | 0 => ("LastChange$Rotation", "ahead", "LLastChange$Ahead;", true)
  | 1 => ("LastChange$Rotation", "told", "[I", true)
  | 2 => ("LastChange$Rotation", "trial", "[I", true)
  | 3 => ("LastChange$Rotation", "hope", "[I", true)
  | 4 => ("LastChange$Rotation", "chosen", "[I", true)
  | _ => ("LastChange$Rotation", "most", "I", false)
def zT_Rotation : Nat → FieldType := fun k => match k with
  | 0 => .object "LastChange$Ahead"
  | 1 => .array (.int)
  | 2 => .array (.int)
  | 3 => .array (.int)
  | 4 => .array (.int)
  | _ => .int
def zR_Side : String := "LastChange$Side"
def zF_Side : u_T := fun k => match k with
  | 0 => ("LastChange$Side", "team", "LLastChange$Team;", true)
  | 1 => ("LastChange$Side", "legs", "[I", true)
  | 2 => ("LastChange$Side", "attack", "[I", true)
  | 3 => ("LastChange$Side", "guard", "[I", true)
  | 4 => ("LastChange$Side", "penalty", "I", false)
  | 5 => ("LastChange$Side", "from", "I", false)
  | _ => ("LastChange$Side", "to", "I", false)
def zT_Side : Nat → FieldType := fun k => match k with
  | 0 => .object "LastChange$Team"
  | 1 => .array (.int)
  | 2 => .array (.int)
  | 3 => .array (.int)
  | 4 => .int
  | 5 => .int
  | _ => .int
def zR_Speech : String := "LastChange$Speech"
def zF_Speech : u_T := fun k => match k with
  | 0 => ("LastChange$Speech", "bytes", "[B", true)
  | _ => ("LastChange$Speech", "size", "I", false)
def zT_Speech : Nat → FieldType := fun k => match k with
  | 0 => .array (.byte)
  | _ => .int
def zR_Team : String := "LastChange$Team"
def zF_Team : u_T := fun k => match k with
  | 0 => ("LastChange$Team", "lines", "I", false)
  | 1 => ("LastChange$Team", "pairs", "I", false)
  | 2 => ("LastChange$Team", "save", "I", false)
  | 3 => ("LastChange$Team", "goals", "I", false)
  | 4 => ("LastChange$Team", "penalty", "I", false)
  | 5 => ("LastChange$Team", "stays", "I", false)
  | 6 => ("LastChange$Team", "pulled", "Z", false)
  | 7 => ("LastChange$Team", "attack", "[I", true)
  | 8 => ("LastChange$Team", "guard", "[I", true)
  | 9 => ("LastChange$Team", "full", "[I", true)
  | 10 => ("LastChange$Team", "tires", "[I", true)
  | 11 => ("LastChange$Team", "rests", "[I", true)
  | _ => ("LastChange$Team", "legs", "[I", true)
def zT_Team : Nat → FieldType := fun k => match k with
  | 0 => .int
  | 1 => .int
  | 2 => .int
  | 3 => .int
  | 4 => .int
  | 5 => .int
  | 6 => .boolean
  | 7 => .array (.int)
  | 8 => .array (.int)
  | 9 => .array (.int)
  | 10 => .array (.int)
  | 11 => .array (.int)
  | _ => .array (.int)
def zR_LC : String := "LastChange"
def zF_LC : u_T := fun k => match k with
  | 0 => ("LastChange", "rink", "LLastChange$Rink;", true)
  | 1 => ("LastChange", "kept", "LLastChange$Rink;", true)
  | 2 => ("LastChange", "reader", "LLastChange$Reader;", true)
  | 3 => ("LastChange", "acts", "LLastChange$Acts;", true)
  | 4 => ("LastChange", "ahead", "LLastChange$Ahead;", true)
  | 5 => ("LastChange", "known", "LLastChange$Rotation;", true)
  | 6 => ("LastChange", "giving", "LLastChange$Giving;", true)
  | 7 => ("LastChange", "pull", "LLastChange$Pull;", true)
  | 8 => ("LastChange", "gone", "LLastChange$Games;", true)
  | 9 => ("LastChange", "speech", "LLastChange$Speech;", true)
  | 10 => ("LastChange", "keys", "[I", true)
  | 11 => ("LastChange", "isKept", "Z", false)
  | _ => ("LastChange", "faultPlace", "I", false)
def zT_LC : Nat → FieldType := fun k => match k with
  | 0 => .object "LastChange$Rink"
  | 1 => .object "LastChange$Rink"
  | 2 => .object "LastChange$Reader"
  | 3 => .object "LastChange$Acts"
  | 4 => .object "LastChange$Ahead"
  | 5 => .object "LastChange$Rotation"
  | 6 => .object "LastChange$Giving"
  | 7 => .object "LastChange$Pull"
  | 8 => .object "LastChange$Games"
  | 9 => .object "LastChange$Speech"
  | 10 => .array (.int)
  | 11 => .boolean
  | _ => .int
def zR_Md : String := "LastChangeModel"
def zF_Md : u_T := fun k => match k with
  | 0 => ("LastChangeModel", "thrown", "I", false)
  | 1 => ("LastChangeModel", "row", "[I", true)
  | 2 => ("LastChangeModel", "read", "[I", true)
  | 3 => ("LastChangeModel", "kept", "[I", true)
  | 4 => ("LastChangeModel", "image", "[I", true)
  | 5 => ("LastChangeModel", "isKept", "Z", false)
  | 6 => ("LastChangeModel", "acts", "I", false)
  | 7 => ("LastChangeModel", "tape", "[B", true)
  | 8 => ("LastChangeModel", "taped", "I", false)
  | 9 => ("LastChangeModel", "size", "I", false)
  | 10 => ("LastChangeModel", "at", "I", false)
  | 11 => ("LastChangeModel", "place", "I", false)
  | 12 => ("LastChangeModel", "token", "I", false)
  | 13 => ("LastChangeModel", "value", "I", false)
  | 14 => ("LastChangeModel", "letters", "I", false)
  | 15 => ("LastChangeModel", "word", "J", false)
  | 16 => ("LastChangeModel", "fault", "I", false)
  | 17 => ("LastChangeModel", "faultPlace", "I", false)
  | 18 => ("LastChangeModel", "teams", "I", false)
  | 19 => ("LastChangeModel", "seen", "I", false)
  | 20 => ("LastChangeModel", "sent", "I", false)
  | 21 => ("LastChangeModel", "told", "[I", true)
  | 22 => ("LastChangeModel", "trying", "[I", true)
  | 23 => ("LastChangeModel", "bestRow", "[I", true)
  | 24 => ("LastChangeModel", "bestSum", "I", false)
  | 25 => ("LastChangeModel", "hasBest", "Z", false)
  | 26 => ("LastChangeModel", "givenRow", "[I", true)
  | 27 => ("LastChangeModel", "givenBest", "[I", true)
  | 28 => ("LastChangeModel", "meetX", "[I", true)
  | 29 => ("LastChangeModel", "meetY", "[I", true)
  | 30 => ("LastChangeModel", "meetBy", "[I", true)
  | 31 => ("LastChangeModel", "meets", "I", false)
  | 32 => ("LastChangeModel", "odds", "[I", true)
  | 33 => ("LastChangeModel", "when", "[I", true)
  | 34 => ("LastChangeModel", "scores", "I", false)
  | 35 => ("LastChangeModel", "scored", "I", false)
  | 36 => ("LastChangeModel", "drawn", "I", false)
  | 37 => ("LastChangeModel", "latest", "[I", true)
  | 38 => ("LastChangeModel", "bestX", "I", false)
  | 39 => ("LastChangeModel", "bestY", "I", false)
  | 40 => ("LastChangeModel", "said", "[B", true)
  | _ => ("LastChangeModel", "saidMany", "I", false)
def zT_Md : Nat → FieldType := fun k => match k with
  | 0 => .int
  | 1 => .array (.int)
  | 2 => .array (.int)
  | 3 => .array (.int)
  | 4 => .array (.int)
  | 5 => .boolean
  | 6 => .int
  | 7 => .array (.byte)
  | 8 => .int
  | 9 => .int
  | 10 => .int
  | 11 => .int
  | 12 => .int
  | 13 => .int
  | 14 => .int
  | 15 => .long
  | 16 => .int
  | 17 => .int
  | 18 => .int
  | 19 => .int
  | 20 => .int
  | 21 => .array (.int)
  | 22 => .array (.int)
  | 23 => .array (.int)
  | 24 => .int
  | 25 => .boolean
  | 26 => .array (.int)
  | 27 => .array (.int)
  | 28 => .array (.int)
  | 29 => .array (.int)
  | 30 => .array (.int)
  | 31 => .int
  | 32 => .array (.int)
  | 33 => .array (.int)
  | 34 => .int
  | 35 => .int
  | 36 => .int
  | 37 => .array (.int)
  | 38 => .int
  | 39 => .int
  | 40 => .array (.byte)
  | _ => .int
def zc_L : List vw_C := [(zR_Acts, zF_Acts, 3), (zR_Ahead, zF_Ahead, 10), (zR_Games, zF_Games, 6), (zR_Giving, zF_Giving, 4), (zR_Pull, zF_Pull, 3), (zR_Reader, zF_Reader, 12), (zR_Rink, zF_Rink, 5), (zR_Rotation, zF_Rotation, 6), (zR_Side, zF_Side, 7), (zR_Speech, zF_Speech, 2), (zR_Team, zF_Team, 13), (zR_LC, zF_LC, 13), (zR_Md, zF_Md, 42)]
def zc_Y : List (Nat → FieldType) := [zT_Acts, zT_Ahead, zT_Games, zT_Giving, zT_Pull, zT_Reader, zT_Rink, zT_Rotation, zT_Side, zT_Speech, zT_Team, zT_LC, zT_Md]
/-- by class and field: 0 an int of some kind, 1 a reference, 2 a long -/
def zc_K : List (List Nat) := [[1, 0, 0], [1, 1, 1, 1, 1, 1, 1, 0, 0, 0], [1, 1, 1, 0, 0, 0], [1, 1, 1, 0], [1, 1, 1], [1, 0, 0, 1, 0, 0, 0, 0, 0, 0, 0, 0], [1, 1, 0, 0, 0], [1, 1, 1, 1, 1, 0], [1, 1, 1, 1, 0, 0, 0], [1, 0], [0, 0, 0, 0, 0, 0, 0, 1, 1, 1, 1, 1, 1], [1, 1, 1, 1, 1, 1, 1, 1, 1, 1, 1, 0, 0], [0, 1, 1, 1, 1, 0, 0, 1, 0, 0, 0, 0, 0, 0, 0, 2, 0, 0, 0, 0, 0, 1, 1, 1, 0, 0, 1, 1, 1, 1, 1, 0, 1, 1, 0, 0, 0, 1, 0, 0, 1, 0]]
def zc_k (c k : Nat) : Nat := (zc_K.getD c []).getD k 0
def zc_y (c : Nat) : Nat → FieldType := zc_Y.getD c (fun _ => .int)
theorem zc_ty : ∀ c, c < 13 → ∀ r, zc_L[c]? = some r → ∀ k, k < r.2.2 → parseFieldDescriptor (r.2.1 k).2.2.1 = some (zc_y c k) := by
  intro c hc r hr
  have : ∀ c, c < 13 → ∀ k, k < ((zc_L.getD c ("", zF_Acts, 0)).2.2) → parseFieldDescriptor (((zc_L.getD c ("", zF_Acts, 0)).2.1 k).2.2.1) = some (zc_y c k) := by decide +kernel
  have h2 := this c hc
  rw [List.getD_eq_getElem?_getD, hr] at h2
  exact h2
theorem zc_nm : ∀ c, c < 13 → ∀ r, zc_L[c]? = some r → ∀ a, a < r.2.2 → ∀ b, b < r.2.2 → a ≠ b → (r.2.1 a).2.1 ≠ (r.2.1 b).2.1 := by
  intro c hc r hr
  have : ∀ c, c < 13 → ∀ a, a < ((zc_L.getD c ("", zF_Acts, 0)).2.2) → ∀ b, b < ((zc_L.getD c ("", zF_Acts, 0)).2.2) → a ≠ b → (((zc_L.getD c ("", zF_Acts, 0)).2.1 a).2.1) ≠ (((zc_L.getD c ("", zF_Acts, 0)).2.1 b).2.1) := by decide +kernel
  have h2 := this c hc
  rw [List.getD_eq_getElem?_getD, hr] at h2
  exact h2
theorem zc_lt {c : Nat} {r : vw_C} (h : zc_L[c]? = some r) : c < 13 := (List.getElem?_eq_some_iff.mp h).1
def lu_ : List Cond := lw_tbl.filter goodWord
def lu_w (i : Nat) (w : Cond) : Bool := decide (tables_1[i]? = some w) && goodWord w
theorem lu_in {i : Nat} {w : Cond} (h : lu_w i w = true) : w ∈ lu_ := by
  simp only [lu_w, Bool.and_eq_true, decide_eq_true_eq] at h
  exact List.mem_filter.mpr ⟨List.mem_append_right _ (List.mem_of_getElem? h.1), h.2⟩
theorem zc_in : ∀ c, c < 13 → ∀ r, zc_L[c]? = some r → ∀ w ∈ u_ws r.1 r.2.1 r.2.2, w ∈ lu_ := by
  intro c hc r hr
  have : ∀ c, c < 13 → ∀ w ∈ u_ws (zc_L.getD c ("", zF_Acts, 0)).1 (zc_L.getD c ("", zF_Acts, 0)).2.1 (zc_L.getD c ("", zF_Acts, 0)).2.2, w ∈ lu_ := by decide +kernel
  have h2 := this c hc
  rw [List.getD_eq_getElem?_getD, hr] at h2
  exact h2
