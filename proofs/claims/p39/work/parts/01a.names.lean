noncomputable def ky8 (s : String) : Nat := s.toByteArray.data.toList.foldl (fun h b => h * 256 + b.toNat) 1
noncomputable def ndN : List Nat → Bool
  | [] => true
  | a :: t => t.all (fun b => !(Nat.beq a b)) && ndN t
theorem ndN_ok : ∀ {l : List Nat}, ndN l = true → ∀ {a b x : Nat}, l[a]? = some x → l[b]? = some x → a = b
  | [], _, a, b, x, ha, _ => by simp at ha
  | c :: t, h, a, b, x, ha, hb => by
    have h : (t.all (fun b => !(Nat.beq c b)) && ndN t) = true := h
    rw [Bool.and_eq_true] at h
    have far : ∀ j : Nat, t[j]? = some c → False := fun j hj => by
      have q : (!(Nat.beq c c)) = true := List.all_eq_true.mp h.1 c (List.mem_of_getElem? hj)
      rw [Nat.beq_refl] at q
      cases q
    cases a with
    | zero =>
      cases b with
      | zero => rfl
      | succ b =>
        rw [List.getElem?_cons_zero] at ha
        rw [List.getElem?_cons_succ] at hb
        cases ha
        exact (far b hb).elim
    | succ a =>
      cases b with
      | zero =>
        rw [List.getElem?_cons_zero] at hb
        rw [List.getElem?_cons_succ] at ha
        cases hb
        exact (far a ha).elim
      | succ b =>
        rw [List.getElem?_cons_succ] at ha hb
        rw [ndN_ok h.2 ha hb]
theorem nm_of {T : u_T} {N : Nat} {K : List Nat} (h : (List.range N).map (fun k => ky8 (T k).2.1) = K) (hd : ndN K = true) : ∀ a, a < N → ∀ b, b < N → a ≠ b → (T a).2.1 ≠ (T b).2.1 := by
  intro a ha b hb hab e
  have q : ∀ j, j < N → K[j]? = some (ky8 (T j).2.1) := fun j hj => by
    rw [← h, List.getElem?_map, List.getElem?_range hj]
    all_goals rfl
  have qa := q a ha
  rw [e] at qa
  exact hab (ndN_ok hd qa (q b hb))
noncomputable def RX0 : String := "HalvedNames$Bidding"
noncomputable def TX0 : u_T := fun k => match k with
  | 0 => ("HalvedNames$Bidding", "gathered", "[I", true)
  | _ => ("HalvedNames$Bidding", "reached", "[I", true)
noncomputable def tyX0 : Nat → FieldType := fun k => match k with
  | 0 => .array .int
  | _ => .array .int
noncomputable abbrev wsX00 : List Cond := u_ws RX0 TX0 2
theorem nmX0 : ∀ a, a < 2 → ∀ b, b < 2 → a ≠ b → (TX0 a).2.1 ≠ (TX0 b).2.1 := nm_of (K := [25896107324084479332, 104257210336961892]) (by decide +kernel) (by decide +kernel)
theorem tyX0_ok : ∀ k, k < 2 → parseFieldDescriptor (TX0 k).2.2.1 = some (tyX0 k) := by decide +kernel
noncomputable def RX1 : String := "HalvedNames$Course"
noncomputable def TX1 : u_T := fun k => match k with
  | 0 => ("HalvedNames$Course", "order", "[I", true)
  | 1 => ("HalvedNames$Course", "present", "[I", true)
  | _ => ("HalvedNames$Course", "known", "[I", true)
noncomputable def tyX1 : Nat → FieldType := fun k => match k with
  | 0 => .array .int
  | 1 => .array .int
  | _ => .array .int
noncomputable abbrev wsX10 : List Cond := u_ws RX1 TX1 3
theorem nmX1 : ∀ a, a < 3 → ∀ b, b < 3 → a ≠ b → (TX1 a).2.1 ≠ (TX1 b).2.1 := nm_of (K := [1578172179826, 103708571482812020, 1560925927278]) (by decide +kernel) (by decide +kernel)
theorem tyX1_ok : ∀ k, k < 3 → parseFieldDescriptor (TX1 k).2.2.1 = some (tyX1 k) := by decide +kernel
noncomputable def RX2 : String := "HalvedNames$Hill"
noncomputable def TX2 : u_T := fun k => match k with
  | 0 => ("HalvedNames$Hill", "lines", "I", false)
  | 1 => ("HalvedNames$Hill", "syllables", "I", false)
  | 2 => ("HalvedNames$Hill", "places", "I", false)
  | 3 => ("HalvedNames$Hill", "hours", "I", false)
  | 4 => ("HalvedNames$Hill", "people", "I", false)
  | 5 => ("HalvedNames$Hill", "sayings", "I", false)
  | 6 => ("HalvedNames$Hill", "lengths", "[I", true)
  | 7 => ("HalvedNames$Hill", "names", "[I", true)
  | 8 => ("HalvedNames$Hill", "stammering", "[I", true)
  | 9 => ("HalvedNames$Hill", "deafness", "[I", true)
  | 10 => ("HalvedNames$Hill", "foes", "[I", true)
  | 11 => ("HalvedNames$Hill", "stays", "[I", true)
  | 12 => ("HalvedNames$Hill", "told", "[I", true)
  | 13 => ("HalvedNames$Hill", "who", "[I", true)
  | 14 => ("HalvedNames$Hill", "whose", "[I", true)
  | 15 => ("HalvedNames$Hill", "which", "[I", true)
  | _ => ("HalvedNames$Hill", "when", "[I", true)
noncomputable def tyX2 : Nat → FieldType := fun k => match k with
  | 0 => .int
  | 1 => .int
  | 2 => .int
  | 3 => .int
  | 4 => .int
  | 5 => .int
  | 6 => .array .int
  | 7 => .array .int
  | 8 => .array .int
  | 9 => .array .int
  | 10 => .array .int
  | 11 => .array .int
  | 12 => .array .int
  | 13 => .array .int
  | 14 => .array .int
  | 15 => .array .int
  | _ => .array .int
noncomputable abbrev wsX20 : List Cond := u_ws RX2 TX2 17
theorem nmX2 : ∀ a, a < 17 → ∀ b, b < 17 → a ≠ b → (TX2 a).2.1 ≠ (TX2 b).2.1 := nm_of (K := [1565136938355, 6852491538687836579187, 405085769393523, 1548058194547, 405055940357221, 104534390447433587, 102568416379168883, 1573592589683, 1754144807844865301376615, 25681039542716822387, 6013543795, 1595385411955, 6248426596, 24602735, 1612364870501, 1612364473192, 6298297710]) (by decide +kernel) (by decide +kernel)
theorem tyX2_ok : ∀ k, k < 17 → parseFieldDescriptor (TX2 k).2.2.1 = some (tyX2 k) := by decide +kernel
noncomputable def RX3 : String := "HalvedNames$Listening"
noncomputable def TX3 : u_T := fun k => match k with
  | 0 => ("HalvedNames$Listening", "ways", "[I", true)
  | _ => ("HalvedNames$Listening", "waysOn", "[I", true)
noncomputable def tyX3 : Nat → FieldType := fun k => match k with
  | 0 => .array .int
  | _ => .array .int
noncomputable abbrev wsX30 : List Cond := u_ws RX3 TX3 2
theorem nmX3 : ∀ a, a < 2 → ∀ b, b < 2 → a ≠ b → (TX3 a).2.1 ≠ (TX3 b).2.1 := nm_of (K := [6297844083, 412735509843822]) (by decide +kernel) (by decide +kernel)
theorem tyX3_ok : ∀ k, k < 2 → parseFieldDescriptor (TX3 k).2.2.1 = some (tyX3 k) := by decide +kernel
noncomputable def RX4 : String := "HalvedNames$Naming"
noncomputable def TX4 : u_T := fun k => match k with
  | 0 => ("HalvedNames$Naming", "spelt", "[I", true)
  | _ => ("HalvedNames$Naming", "orders", "[I", true)
noncomputable def tyX4 : Nat → FieldType := fun k => match k with
  | 0 => .array .int
  | _ => .array .int
noncomputable abbrev wsX40 : List Cond := u_ws RX4 TX4 2
theorem nmX4 : ∀ a, a < 2 → ∀ b, b < 2 → a ≠ b → (TX4 a).2.1 ≠ (TX4 b).2.1 := nm_of (K := [1595318561908, 404012078035571]) (by decide +kernel) (by decide +kernel)
theorem tyX4_ok : ∀ k, k < 2 → parseFieldDescriptor (TX4 k).2.2.1 = some (tyX4 k) := by decide +kernel
noncomputable def RX5 : String := "HalvedNames$Reader"
noncomputable def TX5 : u_T := fun k => match k with
  | 0 => ("HalvedNames$Reader", "tape", "LHalvedNames$Tape;", true)
  | 1 => ("HalvedNames$Reader", "fault", "I", false)
  | _ => ("HalvedNames$Reader", "place", "I", false)
noncomputable def tyX5 : Nat → FieldType := fun k => match k with
  | 0 => .object "HalvedNames$Tape"
  | 1 => .int
  | _ => .int
noncomputable abbrev wsX50 : List Cond := u_ws RX5 TX5 3
theorem nmX5 : ∀ a, a < 3 → ∀ b, b < 3 → a ≠ b → (TX5 a).2.1 ≠ (TX5 b).2.1 := nm_of (K := [6247510117, 1539233377396, 1582366286693]) (by decide +kernel) (by decide +kernel)
theorem tyX5_ok : ∀ k, k < 3 → parseFieldDescriptor (TX5 k).2.2.1 = some (tyX5 k) := by decide +kernel
noncomputable def RX7 : String := "HalvedNames$Sharing"
noncomputable def TX7 : u_T := fun k => match k with
  | 0 => ("HalvedNames$Sharing", "spared", "[I", true)
  | 1 => ("HalvedNames$Sharing", "fewest", "[I", true)
  | _ => ("HalvedNames$Sharing", "shares", "[I", true)
noncomputable def tyX7 : Nat → FieldType := fun k => match k with
  | 0 => .array .int
  | 1 => .array .int
  | _ => .array .int
noncomputable abbrev wsX70 : List Cond := u_ws RX7 TX7 3
theorem nmX7 : ∀ a, a < 3 → ∀ b, b < 3 → a ≠ b → (TX7 a).2.1 ≠ (TX7 b).2.1 := nm_of (K := [408401485129060, 394060957578100, 408367125390707]) (by decide +kernel) (by decide +kernel)
theorem tyX7_ok : ∀ k, k < 3 → parseFieldDescriptor (TX7 k).2.2.1 = some (tyX7 k) := by decide +kernel
noncomputable def RX8 : String := "HalvedNames$Slots"
noncomputable def TX8 : u_T := fun k => match k with
  | 0 => ("HalvedNames$Slots", "numbers", "[J", true)
  | 1 => ("HalvedNames$Slots", "widths", "[I", true)
  | _ => ("HalvedNames$Slots", "sizes", "[I", true)
noncomputable def tyX8 : Nat → FieldType := fun k => match k with
  | 0 => .array .long
  | 1 => .array .int
  | _ => .array .int
noncomputable abbrev wsX80 : List Cond := u_ws RX8 TX8 3
theorem nmX8 : ∀ a, a < 3 → ∀ b, b < 3 → a ≠ b → (TX8 a).2.1 ≠ (TX8 b).2.1 := nm_of (K := [103148954138800755, 412769517332595, 1595202495859]) (by decide +kernel) (by decide +kernel)
theorem tyX8_ok : ∀ k, k < 3 → parseFieldDescriptor (TX8 k).2.2.1 = some (tyX8 k) := by decide +kernel
noncomputable def RX9 : String := "HalvedNames$Story"
noncomputable def TX9 : u_T := fun k => match k with
  | 0 => ("HalvedNames$Story", "known", "[I", true)
  | 1 => ("HalvedNames$Story", "hearers", "[I", true)
  | 2 => ("HalvedNames$Story", "learners", "[I", true)
  | _ => ("HalvedNames$Story", "uttered", "I", false)
noncomputable def tyX9 : Nat → FieldType := fun k => match k with
  | 0 => .array .int
  | 1 => .array .int
  | 2 => .array .int
  | _ => .int
noncomputable abbrev wsX90 : List Cond := u_ws RX9 TX9 4
theorem nmX9 : ∀ a, a < 4 → ∀ b, b < 4 → a ≠ b → (TX9 a).2.1 ≠ (TX9 b).2.1 := nm_of (K := [1560925927278, 101442460821320307, 26257500346559853171, 105118209580098916]) (by decide +kernel) (by decide +kernel)
theorem tyX9_ok : ∀ k, k < 4 → parseFieldDescriptor (TX9 k).2.2.1 = some (tyX9 k) := by decide +kernel
noncomputable def RX10 : String := "HalvedNames$Tape"
noncomputable def TX10 : u_T := fun k => match k with
  | 0 => ("HalvedNames$Tape", "bytes", "[B", true)
  | 1 => ("HalvedNames$Tape", "size", "I", false)
  | 2 => ("HalvedNames$Tape", "kind", "I", false)
  | 3 => ("HalvedNames$Tape", "start", "I", false)
  | 4 => ("HalvedNames$Tape", "stop", "I", false)
  | _ => ("HalvedNames$Tape", "number", "I", false)
noncomputable def tyX10 : Nat → FieldType := fun k => match k with
  | 0 => .array .byte
  | 1 => .int
  | 2 => .int
  | 3 => .int
  | 4 => .int
  | _ => .int
noncomputable abbrev wsX100 : List Cond := u_ws RX10 TX10 6
theorem nmX10 : ∀ a, a < 6 → ∀ b, b < 6 → a ≠ b → (TX10 a).2.1 ≠ (TX10 b).2.1 := nm_of (K := [1522456094067, 6231259749, 6097038948, 1595385410164, 6231977840, 402925602104690]) (by decide +kernel) (by decide +kernel)
theorem tyX10_ok : ∀ k, k < 6 → parseFieldDescriptor (TX10 k).2.2.1 = some (tyX10 k) := by decide +kernel
noncomputable def RX11 : String := "HalvedNames"
noncomputable def TX11 : u_T := fun k => match k with
  | 0 => ("HalvedNames", "reader", "LHalvedNames$Reader;", true)
  | 1 => ("HalvedNames", "tape", "LHalvedNames$Tape;", true)
  | 2 => ("HalvedNames", "hill", "LHalvedNames$Hill;", true)
  | 3 => ("HalvedNames", "draft", "LHalvedNames$Hill;", true)
  | 4 => ("HalvedNames", "course", "LHalvedNames$Course;", true)
  | 5 => ("HalvedNames", "story", "LHalvedNames$Story;", true)
  | 6 => ("HalvedNames", "bidding", "LHalvedNames$Bidding;", true)
  | 7 => ("HalvedNames", "slots", "LHalvedNames$Slots;", true)
  | 8 => ("HalvedNames", "sharing", "LHalvedNames$Sharing;", true)
  | 9 => ("HalvedNames", "listening", "LHalvedNames$Listening;", true)
  | 10 => ("HalvedNames", "naming", "LHalvedNames$Naming;", true)
  | 11 => ("HalvedNames", "images", "[LHalvedNames$Hill;", true)
  | _ => ("HalvedNames", "kept", "I", false)
noncomputable def tyX11 : Nat → FieldType := fun k => match k with
  | 0 => .object "HalvedNames$Reader"
  | 1 => .object "HalvedNames$Tape"
  | 2 => .object "HalvedNames$Hill"
  | 3 => .object "HalvedNames$Hill"
  | 4 => .object "HalvedNames$Course"
  | 5 => .object "HalvedNames$Story"
  | 6 => .object "HalvedNames$Bidding"
  | 7 => .object "HalvedNames$Slots"
  | 8 => .object "HalvedNames$Sharing"
  | 9 => .object "HalvedNames$Listening"
  | 10 => .object "HalvedNames$Naming"
  | 11 => .array (.object "HalvedNames$Hill")
  | _ => .int
noncomputable abbrev wsX110 : List Cond := u_ws RX11 TX11 13
theorem nmX11 : ∀ a, a < 13 → ∀ b, b < 13 → a ≠ b → (TX11 a).2.1 ≠ (TX11 b).2.1 := nm_of (K := [407254727943538, 6247510117, 6046706796, 1530927343220, 390805339665253, 1595386327673, 99758021657849447, 1595252110451, 104541984100281959, 6722213387805573869159, 402839703219815, 397393483228531, 6096777332]) (by decide +kernel) (by decide +kernel)
theorem tyX11_ok : ∀ k, k < 13 → parseFieldDescriptor (TX11 k).2.2.1 = some (tyX11 k) := by decide +kernel
noncomputable def RX12 : String := "HalvedNamesModel"
noncomputable def TX12 : u_T := fun k => match k with
  | 0 => ("HalvedNamesModel", "thrown", "I", false)
  | 1 => ("HalvedNamesModel", "world", "[I", true)
  | 2 => ("HalvedNamesModel", "images", "[I", true)
  | 3 => ("HalvedNamesModel", "hasImage", "[Z", true)
  | 4 => ("HalvedNamesModel", "tape", "[B", true)
  | 5 => ("HalvedNamesModel", "taped", "I", false)
  | 6 => ("HalvedNamesModel", "five", "[I", true)
  | 7 => ("HalvedNamesModel", "size", "I", false)
  | 8 => ("HalvedNamesModel", "at", "I", false)
  | 9 => ("HalvedNamesModel", "from", "I", false)
  | 10 => ("HalvedNamesModel", "token", "I", false)
  | 11 => ("HalvedNamesModel", "value", "I", false)
  | 12 => ("HalvedNamesModel", "faultKind", "I", false)
  | 13 => ("HalvedNamesModel", "faultPlace", "I", false)
  | 14 => ("HalvedNamesModel", "fresh", "[I", true)
  | 15 => ("HalvedNamesModel", "toldPlace", "[I", true)
  | 16 => ("HalvedNamesModel", "known", "[I", true)
  | 17 => ("HalvedNamesModel", "now", "[I", true)
  | 18 => ("HalvedNamesModel", "saidSet", "I", false)
  | 19 => ("HalvedNamesModel", "heardBy", "[I", true)
  | 20 => ("HalvedNamesModel", "learntBy", "[I", true)
  | 21 => ("HalvedNamesModel", "hushedNow", "I", false)
  | 22 => ("HalvedNamesModel", "deafOne", "I", false)
  | 23 => ("HalvedNamesModel", "misheard", "I", false)
  | 24 => ("HalvedNamesModel", "isDrawn", "Z", false)
  | 25 => ("HalvedNamesModel", "drawn", "J", false)
  | 26 => ("HalvedNamesModel", "isGift", "[Z", true)
  | 27 => ("HalvedNamesModel", "lacks", "[I", true)
  | 28 => ("HalvedNamesModel", "pieces", "[I", true)
  | 29 => ("HalvedNamesModel", "spelled", "[I", true)
  | 30 => ("HalvedNamesModel", "spelledMany", "I", false)
  | 31 => ("HalvedNamesModel", "orders", "[I", true)
  | 32 => ("HalvedNamesModel", "many", "[I", true)
  | 33 => ("HalvedNamesModel", "width", "[I", true)
  | 34 => ("HalvedNamesModel", "numbers", "[J", true)
  | _ => ("HalvedNamesModel", "moving", "[J", true)
noncomputable def tyX12 : Nat → FieldType := fun k => match k with
  | 0 => .int
  | 1 => .array .int
  | 2 => .array .int
  | 3 => .array .boolean
  | 4 => .array .byte
  | 5 => .int
  | 6 => .array .int
  | 7 => .int
  | 8 => .int
  | 9 => .int
  | 10 => .int
  | 11 => .int
  | 12 => .int
  | 13 => .int
  | 14 => .array .int
  | 15 => .array .int
  | 16 => .array .int
  | 17 => .array .int
  | 18 => .int
  | 19 => .array .int
  | 20 => .array .int
  | 21 => .int
  | 22 => .int
  | 23 => .int
  | 24 => .boolean
  | 25 => .long
  | 26 => .array .boolean
  | 27 => .array .int
  | 28 => .array .int
  | 29 => .array .int
  | 30 => .int
  | 31 => .array .int
  | 32 => .array .int
  | 33 => .array .int
  | 34 => .array .long
  | _ => .array .long
noncomputable abbrev wsX120 : List Cond := u_ws RX12 TX12 36
theorem nmX12 : ∀ a, a < 36 → ∀ b, b < 36 → a ≠ b → (TX12 a).2.1 ≠ (TX12 b).2.1 := nm_of (K := [409466922039150, 1612482505828, 397393483228531, 25968163685599897445, 6247510117, 1599362590052, 6013154917, 6231259749, 90484, 6013742957, 1599597143406, 1607952266597, 6610957016828710841956, 1692404996308171499856741, 1539517543272, 6870217697952226435941, 1560925927278, 24014711, 104534321642300788, 101442460821242489, 26257500346560823929, 6649291089444881723255, 100316560711708261, 26330703588612993636, 101739204406507374, 1530927347566, 397418816956020, 1565002001267, 405072951600499, 104550797272704356, 449042255056991203794972281, 404012078035571, 6130069113, 1612380927080, 103148954138800755, 401800472129127]) (by decide +kernel) (by decide +kernel)
theorem tyX12_ok : ∀ k, k < 36 → parseFieldDescriptor (TX12 k).2.2.1 = some (tyX12 k) := by decide +kernel
