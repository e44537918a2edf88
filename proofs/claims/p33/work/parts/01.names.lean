-- ===== PART A: goes FIRST, ahead of the names: the tables' words, and 'selects' of the private methods out of them =====
/-- a private method of a class that the tables say can be made, by its rows of tables_1 -/
def lw_okq (q : MethodName × Nat) : Prop := (q.1.cls ≠ "java/lang/invoke/MethodHandle" ∧ q.1.cls ≠ "java/lang/invoke/VarHandle") ∧ Cond.instantiable q.1.cls q.2 ∈ tables_1 ∧ Cond.privateMethod q.1 ∈ tables_1 ∧ Cond.instanceMethod q.1 ∈ tables_1
def lw_privs : List (MethodName × Nat) := []
def lw_tbl : List Cond := k2_sels lw_privs ++ tables_1
theorem lw_privs_ok : ∀ q ∈ lw_privs, lw_okq q := fun _ h => absurd h List.not_mem_nil
/-! ===== BEGIN words of one list among another's, by their places ===== -/
theorem goodIn_r {big : List Cond} (ws : List Cond) (ps : List Nat) (hp : ws = ps.filterMap (fun i => big[i]?)) (h : ws.all goodWord = true) : GoodIn big ws := by
  intro w hw
  have h1 := List.all_eq_true.mp h w hw
  rw [hp] at hw
  obtain ⟨i, -, hi⟩ := List.mem_filterMap.mp hw
  have hm : w ∈ big := by first | exact List.mem_of_getElem? hi | exact List.getElem?_mem hi
  exact ⟨hm, good_of_word h1⟩
theorem goodIn_app {big a b : List Cond} (ha : GoodIn big a) (hb : GoodIn big b) : GoodIn big (a ++ b) := fun w h => (List.mem_append.mp h).elim (ha w) (hb w)
theorem goodIn_ca {big a b : List Cond} {c : Cond} (ha : GoodIn big (c :: a)) (hb : GoodIn big b) : GoodIn big (c :: (a ++ b)) := fun w h => (List.mem_cons.mp h).elim (fun e => ha w (List.mem_cons.mpr (Or.inl e))) (fun h => (List.mem_append.mp h).elim (fun h => ha w (List.mem_cons.mpr (Or.inr h))) (hb w))
theorem goodIn_sub {big ws : List Cond} (hm : ∀ w ∈ ws, w ∈ big) (h : ws.all goodWord = true) : GoodIn big ws := fun w hw => ⟨hm w hw, good_of_word (List.all_eq_true.mp h w hw)⟩
/-! ===== END ===== -/

/-! ===== BEGIN printed: names, fields, word lists, decode rows ===== -/
def RX0 : String := "FishCounter$DeliveryText"
def TX0 : u_T := fun k => match k with
  | 0 => ("FishCounter$DeliveryText", "length", "I", false)
  | 1 => ("FishCounter$DeliveryText", "kind", "I", false)
  | 2 => ("FishCounter$DeliveryText", "grams", "I", false)
  | 3 => ("FishCounter$DeliveryText", "fresh", "I", false)
  | 4 => ("FishCounter$DeliveryText", "box", "I", false)
  | 5 => ("FishCounter$DeliveryText", "position", "I", false)
  | _ => ("FishCounter$DeliveryText", "signs", "[C", true)
def tyX0 : Nat → FieldType := fun k => match k with
  | 0 => .int
  | 1 => .int
  | 2 => .int
  | 3 => .int
  | 4 => .int
  | 5 => .int
  | _ => .array .char
abbrev wsX00 : List Cond := u_ws RX0 TX0 7
theorem nmX0 : ∀ a, a < 7 → ∀ b, b < 7 → a ≠ b → (TX0 a).2.1 ≠ (TX0 b).2.1 := by decide +kernel
theorem tyX0_ok : ∀ k, k < 7 → parseFieldDescriptor (TX0 k).2.2.1 = some (tyX0 k) := by decide +kernel
abbrev cX0_init : ByteArray := prog_2_method_1_code
def yX0_init : MethodName := ⟨RX0, "<init>", "()V"⟩
def RX1 : String := "FishCounter$Forecast"
def TX1 : u_T := fun k => match k with
  | 0 => ("FishCounter$Forecast", "fresh", "I", false)
  | 1 => ("FishCounter$Forecast", "ice", "I", false)
  | 2 => ("FishCounter$Forecast", "melting", "I", false)
  | _ => ("FishCounter$Forecast", "onTray", "Z", false)
def tyX1 : Nat → FieldType := fun k => match k with
  | 0 => .int
  | 1 => .int
  | 2 => .int
  | _ => .boolean
abbrev wsX10 : List Cond := u_ws RX1 TX1 4
theorem nmX1 : ∀ a, a < 4 → ∀ b, b < 4 → a ≠ b → (TX1 a).2.1 ≠ (TX1 b).2.1 := by decide +kernel
theorem tyX1_ok : ∀ k, k < 4 → parseFieldDescriptor (TX1 k).2.2.1 = some (tyX1 k) := by decide +kernel
abbrev cX1_init : ByteArray := prog_3_method_1_code
def yX1_init : MethodName := ⟨RX1, "<init>", "()V"⟩
abbrev cX1_start : ByteArray := prog_3_method_2_code
def yX1_start : MethodName := ⟨RX1, "start", "(LFishCounter$Shop;LFishCounter$Lot;)V"⟩
abbrev cX1_passHour : ByteArray := prog_3_method_3_code
def yX1_passHour : MethodName := ⟨RX1, "passHour", "()V"⟩
def RX2 : String := "FishCounter$History"
def TX2 : u_T := fun k => match k with
  | 0 => ("FishCounter$History", "count", "I", false)
  | 1 => ("FishCounter$History", "next", "I", false)
  | _ => ("FishCounter$History", "saved", "[LFishCounter$Shop;", true)
def tyX2 : Nat → FieldType := fun k => match k with
  | 0 => .int
  | 1 => .int
  | _ => .array (.object "FishCounter$Shop")
abbrev wsX20 : List Cond := u_ws RX2 TX2 3
theorem nmX2 : ∀ a, a < 3 → ∀ b, b < 3 → a ≠ b → (TX2 a).2.1 ≠ (TX2 b).2.1 := by decide +kernel
theorem tyX2_ok : ∀ k, k < 3 → parseFieldDescriptor (TX2 k).2.2.1 = some (tyX2 k) := by decide +kernel
abbrev cX2_init : ByteArray := prog_4_method_1_code
def yX2_init : MethodName := ⟨RX2, "<init>", "()V"⟩
abbrev cX2_save : ByteArray := prog_4_method_2_code
def yX2_save : MethodName := ⟨RX2, "save", "(LFishCounter$Shop;)V"⟩
def RX3 : String := "FishCounter$Lot"
def TX3 : u_T := fun k => match k with
  | 0 => ("FishCounter$Lot", "number", "I", false)
  | 1 => ("FishCounter$Lot", "kind", "I", false)
  | 2 => ("FishCounter$Lot", "grams", "I", false)
  | 3 => ("FishCounter$Lot", "fresh", "I", false)
  | 4 => ("FishCounter$Lot", "box", "I", false)
  | _ => ("FishCounter$Lot", "tray", "I", false)
def tyX3 : Nat → FieldType := fun k => match k with
  | 0 => .int
  | 1 => .int
  | 2 => .int
  | 3 => .int
  | 4 => .int
  | _ => .int
abbrev wsX30 : List Cond := u_ws RX3 TX3 6
theorem nmX3 : ∀ a, a < 6 → ∀ b, b < 6 → a ≠ b → (TX3 a).2.1 ≠ (TX3 b).2.1 := by decide +kernel
theorem tyX3_ok : ∀ k, k < 6 → parseFieldDescriptor (TX3 k).2.2.1 = some (tyX3 k) := by decide +kernel
abbrev cX3_init : ByteArray := prog_5_method_1_code
def yX3_init : MethodName := ⟨RX3, "<init>", "()V"⟩
abbrev cX3_isOnTray : ByteArray := prog_5_method_2_code
def yX3_isOnTray : MethodName := ⟨RX3, "isOnTray", "()Z"⟩
abbrev cX3_putInBox : ByteArray := prog_5_method_3_code
def yX3_putInBox : MethodName := ⟨RX3, "putInBox", "(I)V"⟩
abbrev cX3_putOnTray : ByteArray := prog_5_method_4_code
def yX3_putOnTray : MethodName := ⟨RX3, "putOnTray", "(I)V"⟩
abbrev cX3_copyFrom : ByteArray := prog_5_method_5_code
def yX3_copyFrom : MethodName := ⟨RX3, "copyFrom", "(LFishCounter$Lot;)V"⟩
def RX4 : String := "FishCounter$Shop"
def TX4 : u_T := fun k => match k with
  | 0 => ("FishCounter$Shop", "day", "I", false)
  | 1 => ("FishCounter$Shop", "hour", "I", false)
  | 2 => ("FishCounter$Shop", "melting", "I", false)
  | 3 => ("FishCounter$Shop", "limit", "I", false)
  | 4 => ("FishCounter$Shop", "lastNumber", "I", false)
  | 5 => ("FishCounter$Shop", "lotCount", "I", false)
  | 6 => ("FishCounter$Shop", "gramsCame", "J", false)
  | 7 => ("FishCounter$Shop", "gramsSold", "J", false)
  | 8 => ("FishCounter$Shop", "gramsThrownAway", "J", false)
  | 9 => ("FishCounter$Shop", "moneyPaid", "J", false)
  | 10 => ("FishCounter$Shop", "moneyTaken", "J", false)
  | 11 => ("FishCounter$Shop", "prices", "[I", true)
  | 12 => ("FishCounter$Shop", "costs", "[I", true)
  | 13 => ("FishCounter$Shop", "cuts", "[I", true)
  | 14 => ("FishCounter$Shop", "boxIce", "[I", true)
  | 15 => ("FishCounter$Shop", "trayIce", "[I", true)
  | _ => ("FishCounter$Shop", "lots", "[LFishCounter$Lot;", true)
def tyX4 : Nat → FieldType := fun k => match k with
  | 0 => .int
  | 1 => .int
  | 2 => .int
  | 3 => .int
  | 4 => .int
  | 5 => .int
  | 6 => .long
  | 7 => .long
  | 8 => .long
  | 9 => .long
  | 10 => .long
  | 11 => .array .int
  | 12 => .array .int
  | 13 => .array .int
  | 14 => .array .int
  | 15 => .array .int
  | _ => .array (.object "FishCounter$Lot")
abbrev wsX40 : List Cond := u_ws RX4 TX4 17
theorem nmX4 : ∀ a, a < 17 → ∀ b, b < 17 → a ≠ b → (TX4 a).2.1 ≠ (TX4 b).2.1 := by decide +kernel
theorem tyX4_ok : ∀ k, k < 17 → parseFieldDescriptor (TX4 k).2.2.1 = some (tyX4 k) := by decide +kernel
abbrev cX4_init : ByteArray := prog_6_method_1_code
def yX4_init : MethodName := ⟨RX4, "<init>", "()V"⟩
abbrev cX4_copyFrom : ByteArray := prog_6_method_2_code
def yX4_copyFrom : MethodName := ⟨RX4, "copyFrom", "(LFishCounter$Shop;)V"⟩
abbrev cX4_indexOfLot : ByteArray := prog_6_method_3_code
def yX4_indexOfLot : MethodName := ⟨RX4, "indexOfLot", "(I)I"⟩
abbrev cX4_findLot : ByteArray := prog_6_method_4_code
def yX4_findLot : MethodName := ⟨RX4, "findLot", "(I)LFishCounter$Lot;"⟩
abbrev cX4_indexOnTray : ByteArray := prog_6_method_5_code
def yX4_indexOnTray : MethodName := ⟨RX4, "indexOnTray", "(I)I"⟩
abbrev cX4_numberOnTray : ByteArray := prog_6_method_6_code
def yX4_numberOnTray : MethodName := ⟨RX4, "numberOnTray", "(I)I"⟩
abbrev cX4_lotsInBox : ByteArray := prog_6_method_7_code
def yX4_lotsInBox : MethodName := ⟨RX4, "lotsInBox", "(I)I"⟩
abbrev cX4_isBoxFull : ByteArray := prog_6_method_8_code
def yX4_isBoxFull : MethodName := ⟨RX4, "isBoxFull", "(I)Z"⟩
abbrev cX4_gramsInBox : ByteArray := prog_6_method_9_code
def yX4_gramsInBox : MethodName := ⟨RX4, "gramsInBox", "(I)I"⟩
abbrev cX4_firstLotInBox : ByteArray := prog_6_method_10_code
def yX4_firstLotInBox : MethodName := ⟨RX4, "firstLotInBox", "(I)I"⟩
abbrev cX4_gramsInShop : ByteArray := prog_6_method_11_code
def yX4_gramsInShop : MethodName := ⟨RX4, "gramsInShop", "()I"⟩
abbrev cX4_gramsOfKind : ByteArray := prog_6_method_12_code
def yX4_gramsOfKind : MethodName := ⟨RX4, "gramsOfKind", "(I)I"⟩
abbrev cX4_freshestLotOfKind : ByteArray := prog_6_method_13_code
def yX4_freshestLotOfKind : MethodName := ⟨RX4, "freshestLotOfKind", "(I)I"⟩
abbrev cX4_priceAt : ByteArray := prog_6_method_14_code
def yX4_priceAt : MethodName := ⟨RX4, "priceAt", "(III)I"⟩
abbrev cX4_priceOf : ByteArray := prog_6_method_15_code
def yX4_priceOf : MethodName := ⟨RX4, "priceOf", "(LFishCounter$Lot;)I"⟩
abbrev cX4_iceAt : ByteArray := prog_6_method_16_code
def yX4_iceAt : MethodName := ⟨RX4, "iceAt", "(LFishCounter$Lot;)I"⟩
abbrev cX4_refusalOfNewLot : ByteArray := prog_6_method_17_code
def yX4_refusalOfNewLot : MethodName := ⟨RX4, "refusalOfNewLot", "(I)I"⟩
abbrev cX4_addLot : ByteArray := prog_6_method_18_code
def yX4_addLot : MethodName := ⟨RX4, "addLot", "(IIII)I"⟩
abbrev cX4_buyLot : ByteArray := prog_6_method_19_code
def yX4_buyLot : MethodName := ⟨RX4, "buyLot", "(IIII)I"⟩
abbrev cX4_removeLotAt : ByteArray := prog_6_method_20_code
def yX4_removeLotAt : MethodName := ⟨RX4, "removeLotAt", "(I)V"⟩
abbrev cX4_discardLotAt : ByteArray := prog_6_method_21_code
def yX4_discardLotAt : MethodName := ⟨RX4, "discardLotAt", "(I)I"⟩
abbrev cX4_sell : ByteArray := prog_6_method_22_code
def yX4_sell : MethodName := ⟨RX4, "sell", "(IIII)I"⟩
abbrev cX4_nextLotToSell : ByteArray := prog_6_method_23_code
def yX4_nextLotToSell : MethodName := ⟨RX4, "nextLotToSell", "(III)I"⟩
abbrev cX4_sellFromLotAt : ByteArray := prog_6_method_24_code
def yX4_sellFromLotAt : MethodName := ⟨RX4, "sellFromLotAt", "(II)I"⟩
abbrev cX4_passHour : ByteArray := prog_6_method_25_code
def yX4_passHour : MethodName := ⟨RX4, "passHour", "()V"⟩
abbrev cX4_closeDay : ByteArray := prog_6_method_26_code
def yX4_closeDay : MethodName := ⟨RX4, "closeDay", "()I"⟩
abbrev cX4_discardLotsBelowLimit : ByteArray := prog_6_method_27_code
def yX4_discardLotsBelowLimit : MethodName := ⟨RX4, "discardLotsBelowLimit", "()I"⟩
abbrev cX4_clearTray : ByteArray := prog_6_method_28_code
def yX4_clearTray : MethodName := ⟨RX4, "clearTray", "(I)I"⟩
abbrev cX4_boxForTheNight : ByteArray := prog_6_method_29_code
def yX4_boxForTheNight : MethodName := ⟨RX4, "boxForTheNight", "()I"⟩
def RX5 : String := "FishCounter"
def TX5 : u_T := fun k => match k with
  | 0 => ("FishCounter", "now", "LFishCounter$Shop;", true)
  | 1 => ("FishCounter", "trial", "LFishCounter$Shop;", true)
  | 2 => ("FishCounter", "forecast", "LFishCounter$Forecast;", true)
  | 3 => ("FishCounter", "history", "LFishCounter$History;", true)
  | _ => ("FishCounter", "text", "LFishCounter$DeliveryText;", true)
def tyX5 : Nat → FieldType := fun k => match k with
  | 0 => .object "FishCounter$Shop"
  | 1 => .object "FishCounter$Shop"
  | 2 => .object "FishCounter$Forecast"
  | 3 => .object "FishCounter$History"
  | _ => .object "FishCounter$DeliveryText"
abbrev wsX50 : List Cond := u_ws RX5 TX5 5
theorem nmX5 : ∀ a, a < 5 → ∀ b, b < 5 → a ≠ b → (TX5 a).2.1 ≠ (TX5 b).2.1 := by decide +kernel
theorem tyX5_ok : ∀ k, k < 5 → parseFieldDescriptor (TX5 k).2.2.1 = some (tyX5 k) := by decide +kernel
abbrev cX5_init : ByteArray := prog_1_method_1_code
def yX5_init : MethodName := ⟨RX5, "<init>", "()V"⟩
abbrev cX5_setPrice : ByteArray := prog_1_method_2_code
def yX5_setPrice : MethodName := ⟨RX5, "setPrice", "(III)I"⟩
abbrev cX5_setCut : ByteArray := prog_1_method_3_code
def yX5_setCut : MethodName := ⟨RX5, "setCut", "(II)I"⟩
abbrev cX5_setMelting : ByteArray := prog_1_method_4_code
def yX5_setMelting : MethodName := ⟨RX5, "setMelting", "(II)I"⟩
abbrev cX5_deliver : ByteArray := prog_1_method_5_code
def yX5_deliver : MethodName := ⟨RX5, "deliver", "(IIII)I"⟩
abbrev cX5_iceBox : ByteArray := prog_1_method_6_code
def yX5_iceBox : MethodName := ⟨RX5, "iceBox", "(II)I"⟩
abbrev cX5_iceTray : ByteArray := prog_1_method_7_code
def yX5_iceTray : MethodName := ⟨RX5, "iceTray", "(II)I"⟩
abbrev cX5_toTray : ByteArray := prog_1_method_8_code
def yX5_toTray : MethodName := ⟨RX5, "toTray", "(II)I"⟩
abbrev cX5_toBox : ByteArray := prog_1_method_9_code
def yX5_toBox : MethodName := ⟨RX5, "toBox", "(II)I"⟩
abbrev cX5_divide : ByteArray := prog_1_method_10_code
def yX5_divide : MethodName := ⟨RX5, "divide", "(III)I"⟩
abbrev cX5_throwAway : ByteArray := prog_1_method_11_code
def yX5_throwAway : MethodName := ⟨RX5, "throwAway", "(I)I"⟩
abbrev cX5_order : ByteArray := prog_1_method_12_code
def yX5_order : MethodName := ⟨RX5, "order", "(IIII)I"⟩
abbrev cX5_pass : ByteArray := prog_1_method_13_code
def yX5_pass : MethodName := ⟨RX5, "pass", "()I"⟩
abbrev cX5_close : ByteArray := prog_1_method_14_code
def yX5_close : MethodName := ⟨RX5, "close", "()I"⟩
abbrev cX5_count : ByteArray := prog_1_method_15_code
def yX5_count : MethodName := ⟨RX5, "count", "(I)J"⟩
abbrev cX5_lot : ByteArray := prog_1_method_16_code
def yX5_lot : MethodName := ⟨RX5, "lot", "(II)I"⟩
abbrev cX5_box : ByteArray := prog_1_method_17_code
def yX5_box : MethodName := ⟨RX5, "box", "(II)I"⟩
abbrev cX5_tray : ByteArray := prog_1_method_18_code
def yX5_tray : MethodName := ⟨RX5, "tray", "(II)I"⟩
abbrev cX5_kind : ByteArray := prog_1_method_19_code
def yX5_kind : MethodName := ⟨RX5, "kind", "(II)I"⟩
abbrev cX5_cut : ByteArray := prog_1_method_20_code
def yX5_cut : MethodName := ⟨RX5, "cut", "(I)I"⟩
abbrev cX5_freshAfter : ByteArray := prog_1_method_21_code
def yX5_freshAfter : MethodName := ⟨RX5, "freshAfter", "(II)I"⟩
abbrev cX5_hoursLeft : ByteArray := prog_1_method_22_code
def yX5_hoursLeft : MethodName := ⟨RX5, "hoursLeft", "(I)I"⟩
abbrev cX5_bestHour : ByteArray := prog_1_method_23_code
def yX5_bestHour : MethodName := ⟨RX5, "bestHour", "(I)I"⟩
abbrev cX5_ifClosed : ByteArray := prog_1_method_24_code
def yX5_ifClosed : MethodName := ⟨RX5, "ifClosed", "(I)I"⟩
abbrev cX5_worth : ByteArray := prog_1_method_25_code
def yX5_worth : MethodName := ⟨RX5, "worth", "()J"⟩
abbrev cX5_within : ByteArray := prog_1_method_35_code
def yX5_within : MethodName := ⟨RX5, "within", "(III)Z"⟩
abbrev cX5_isKind : ByteArray := prog_1_method_36_code
def yX5_isKind : MethodName := ⟨RX5, "isKind", "(I)Z"⟩
abbrev cX5_isBox : ByteArray := prog_1_method_37_code
def yX5_isBox : MethodName := ⟨RX5, "isBox", "(I)Z"⟩
abbrev cX5_isTray : ByteArray := prog_1_method_38_code
def yX5_isTray : MethodName := ⟨RX5, "isTray", "(I)Z"⟩
abbrev cX5_isHour : ByteArray := prog_1_method_39_code
def yX5_isHour : MethodName := ⟨RX5, "isHour", "(I)Z"⟩
abbrev cX5_moneyFor : ByteArray := prog_1_method_40_code
def yX5_moneyFor : MethodName := ⟨RX5, "moneyFor", "(II)I"⟩
abbrev cX5_freshAnHourLater : ByteArray := prog_1_method_41_code
def yX5_freshAnHourLater : MethodName := ⟨RX5, "freshAnHourLater", "(IZI)I"⟩
abbrev cX5_iceAnHourLater : ByteArray := prog_1_method_42_code
def yX5_iceAnHourLater : MethodName := ⟨RX5, "iceAnHourLater", "(IZI)I"⟩
def RX6 : String := "FishCounterModel"
def TX6 : u_T := fun k => match k with
  | _ => ("", "", "", false)
def tyX6 : Nat → FieldType := fun k => match k with
  | _ => .int
abbrev wsX60 : List Cond := u_ws RX6 TX6 0
theorem nmX6 : ∀ a, a < 0 → ∀ b, b < 0 → a ≠ b → (TX6 a).2.1 ≠ (TX6 b).2.1 := by decide +kernel
theorem tyX6_ok : ∀ k, k < 0 → parseFieldDescriptor (TX6 k).2.2.1 = some (tyX6 k) := by decide +kernel
def RJ9 : String := "java/lang/Math"
def TJ9 : u_T := fun k => match k with
  | _ => ("", "", "", false)
def tyJ9 : Nat → FieldType := fun k => match k with
  | _ => .int
abbrev wsJ90 : List Cond := u_ws RJ9 TJ9 0
theorem nmJ9 : ∀ a, a < 0 → ∀ b, b < 0 → a ≠ b → (TJ9 a).2.1 ≠ (TJ9 b).2.1 := by decide +kernel
theorem tyJ9_ok : ∀ k, k < 0 → parseFieldDescriptor (TJ9 k).2.2.1 = some (tyJ9 k) := by decide +kernel
abbrev cJ9_max_7cf53 : ByteArray := prog_9_method_65_code
def yJ9_max_7cf53 : MethodName := ⟨RJ9, "max", "(II)I"⟩
abbrev cJ9_min_7cf53 : ByteArray := prog_9_method_69_code
def yJ9_min_7cf53 : MethodName := ⟨RJ9, "min", "(II)I"⟩
def RJ10 : String := "java/lang/System"
def TJ10 : u_T := fun k => match k with
  | _ => ("", "", "", false)
def tyJ10 : Nat → FieldType := fun k => match k with
  | _ => .int
abbrev wsJ100 : List Cond := u_ws RJ10 TJ10 0
theorem nmJ10 : ∀ a, a < 0 → ∀ b, b < 0 → a ≠ b → (TJ10 a).2.1 ≠ (TJ10 b).2.1 := by decide +kernel
theorem tyJ10_ok : ∀ k, k < 0 → parseFieldDescriptor (TJ10 k).2.2.1 = some (tyJ10 k) := by decide +kernel
def RL : String := "FishCounterLaw"
abbrev cL_cell : ByteArray := method_2_code
def yL_cell : MethodName := ⟨RL, "cell", "([II)I"⟩
abbrev cL_low : ByteArray := method_3_code
def yL_low : MethodName := ⟨RL, "low", "(II)I"⟩
abbrev cL_at : ByteArray := method_4_code
def yL_at : MethodName := ⟨RL, "at", "(I[I[I)I"⟩
abbrev cL_lots : ByteArray := method_5_code
def yL_lots : MethodName := ⟨RL, "lots", "([I[I)I"⟩
abbrev cL_price : ByteArray := method_6_code
def yL_price : MethodName := ⟨RL, "price", "(III[I)I"⟩
abbrev cL_fresh : ByteArray := method_7_code
def yL_fresh : MethodName := ⟨RL, "fresh", "(II[I[I[I)I"⟩
abbrev cL_hour : ByteArray := method_8_code
def yL_hour : MethodName := ⟨RL, "hour", "([I[I[I)V"⟩
abbrev cL_close : ByteArray := method_9_code
def yL_close : MethodName := ⟨RL, "close", "([I[I[I)I"⟩
abbrev cL_same : ByteArray := method_10_code
def yL_same : MethodName := ⟨RL, "same", "(LFishCounter;I[I[I[I)Z"⟩
abbrev cL_law : ByteArray := code
def yL_law : MethodName := ⟨RL, "law", "([I)Z"⟩
abbrev vwCl : List vw_C := [(RX0, TX0, 7), (RX1, TX1, 4), (RX2, TX2, 3), (RX3, TX3, 6), (RX4, TX4, 17), (RX5, TX5, 5)]
/-! ===== END printed: names ===== -/
/-- the words that every contract takes: all of the tables' that stay true -/
def wsL_law : List Cond := lw_tbl.filter goodWord
theorem wsL_law_in : ∀ w ∈ wsL_law, w ∈ lw_tbl := fun _ h => (List.mem_filter.mp h).1
theorem kGood : wsL_law.all goodWord = true := List.all_eq_true.mpr (fun _ h => (List.mem_filter.mp h).2)
theorem kW {w : Cond} (i : Nat) (h : (lw_tbl[i]? = some w) ∧ goodWord w = true) : w ∈ wsL_law := List.mem_filter.mpr ⟨List.mem_of_getElem? h.1, h.2⟩
theorem kWs {ws : List Cond} (ps : List Nat) (hp : ws = ps.filterMap (fun i => lw_tbl[i]?)) (h : ws.all goodWord = true) : ∀ w ∈ ws, w ∈ wsL_law := fun w hw => List.mem_filter.mpr ⟨((goodIn_r ws ps hp h) w hw).1, List.all_eq_true.mp h w hw⟩
