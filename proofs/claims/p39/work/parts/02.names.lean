def RX0 : String := "AyeJars$Acts"
def TX0 : u_T := fun k => match k with
  | 0 => ("AyeJars$Acts", "ring", "[LAyeJars$Jars;", true)
  | 1 => ("AyeJars$Acts", "first", "I", false)
  | 2 => ("AyeJars$Acts", "done", "I", false)
  | _ => ("AyeJars$Acts", "known", "I", false)
def tyX0 : Nat → FieldType := fun k => match k with
  | 0 => .array (.object "AyeJars$Jars")
  | 1 => .int
  | 2 => .int
  | _ => .int
theorem nmX0 : ∀ a, a < 4 → ∀ b, b < 4 → a ≠ b → (TX0 a).2.1 ≠ (TX0 b).2.1 := by decide +kernel
theorem tyX0_ok : ∀ k, k < 4 → parseFieldDescriptor (TX0 k).2.2.1 = some (tyX0 k) := by decide +kernel
def RX1 : String := "AyeJars$Ahead"
def TX1 : u_T := fun k => match k with
  | 0 => ("AyeJars$Ahead", "house", "LAyeJars$House;", true)
  | 1 => ("AyeJars$Ahead", "jars", "LAyeJars$Jars;", true)
  | _ => ("AyeJars$Ahead", "trial", "LAyeJars$Trial;", true)
def tyX1 : Nat → FieldType := fun k => match k with
  | 0 => .object "AyeJars$House"
  | 1 => .object "AyeJars$Jars"
  | _ => .object "AyeJars$Trial"
theorem nmX1 : ∀ a, a < 3 → ∀ b, b < 3 → a ≠ b → (TX1 a).2.1 ≠ (TX1 b).2.1 := by decide +kernel
theorem tyX1_ok : ∀ k, k < 3 → parseFieldDescriptor (TX1 k).2.2.1 = some (tyX1 k) := by decide +kernel
def RX2 : String := "AyeJars$Chances"
def TX2 : u_T := fun k => match k with
  | 0 => ("AyeJars$Chances", "house", "LAyeJars$House;", true)
  | 1 => ("AyeJars$Chances", "jars", "LAyeJars$Jars;", true)
  | 2 => ("AyeJars$Chances", "trial", "LAyeJars$Trial;", true)
  | 3 => ("AyeJars$Chances", "ahead", "LAyeJars$Ahead;", true)
  | 4 => ("AyeJars$Chances", "upper", "J", false)
  | _ => ("AyeJars$Chances", "lower", "J", false)
def tyX2 : Nat → FieldType := fun k => match k with
  | 0 => .object "AyeJars$House"
  | 1 => .object "AyeJars$Jars"
  | 2 => .object "AyeJars$Trial"
  | 3 => .object "AyeJars$Ahead"
  | 4 => .long
  | _ => .long
theorem nmX2 : ∀ a, a < 6 → ∀ b, b < 6 → a ≠ b → (TX2 a).2.1 ≠ (TX2 b).2.1 := by decide +kernel
theorem tyX2_ok : ∀ k, k < 6 → parseFieldDescriptor (TX2 k).2.2.1 = some (tyX2 k) := by decide +kernel
def RX3 : String := "AyeJars$Choices"
def TX3 : u_T := fun k => match k with
  | 0 => ("AyeJars$Choices", "house", "LAyeJars$House;", true)
  | 1 => ("AyeJars$Choices", "jars", "LAyeJars$Jars;", true)
  | 2 => ("AyeJars$Choices", "trial", "LAyeJars$Trial;", true)
  | 3 => ("AyeJars$Choices", "ahead", "LAyeJars$Ahead;", true)
  | 4 => ("AyeJars$Choices", "lying", "[I", true)
  | 5 => ("AyeJars$Choices", "lyingCount", "I", false)
  | 6 => ("AyeJars$Choices", "tried", "[I", true)
  | 7 => ("AyeJars$Choices", "sets", "[I", true)
  | 8 => ("AyeJars$Choices", "forces", "[J", true)
  | 9 => ("AyeJars$Choices", "allowed", "[J", true)
  | 10 => ("AyeJars$Choices", "best", "I", false)
  | 11 => ("AyeJars$Choices", "fewest", "I", false)
  | 12 => ("AyeJars$Choices", "most", "I", false)
  | 13 => ("AyeJars$Choices", "stages", "[LAyeJars$Trial;", true)
  | _ => ("AyeJars$Choices", "outcomes", "[I", true)
def tyX3 : Nat → FieldType := fun k => match k with
  | 0 => .object "AyeJars$House"
  | 1 => .object "AyeJars$Jars"
  | 2 => .object "AyeJars$Trial"
  | 3 => .object "AyeJars$Ahead"
  | 4 => .array .int
  | 5 => .int
  | 6 => .array .int
  | 7 => .array .int
  | 8 => .array .long
  | 9 => .array .long
  | 10 => .int
  | 11 => .int
  | 12 => .int
  | 13 => .array (.object "AyeJars$Trial")
  | _ => .array .int
theorem nmX3 : ∀ a, a < 15 → ∀ b, b < 15 → a ≠ b → (TX3 a).2.1 ≠ (TX3 b).2.1 := by decide +kernel
theorem tyX3_ok : ∀ k, k < 15 → parseFieldDescriptor (TX3 k).2.2.1 = some (tyX3 k) := by decide +kernel
def RX4 : String := "AyeJars$Formula"
def TX4 : u_T := fun k => match k with
  | 0 => ("AyeJars$Formula", "codes", "[I", true)
  | 1 => ("AyeJars$Formula", "numbers", "[I", true)
  | 2 => ("AyeJars$Formula", "stack", "[I", true)
  | 3 => ("AyeJars$Formula", "known", "[I", true)
  | 4 => ("AyeJars$Formula", "size", "I", false)
  | 5 => ("AyeJars$Formula", "units", "I", false)
  | _ => ("AyeJars$Formula", "told", "Z", false)
def tyX4 : Nat → FieldType := fun k => match k with
  | 0 => .array .int
  | 1 => .array .int
  | 2 => .array .int
  | 3 => .array .int
  | 4 => .int
  | 5 => .int
  | _ => .boolean
theorem nmX4 : ∀ a, a < 7 → ∀ b, b < 7 → a ≠ b → (TX4 a).2.1 ≠ (TX4 b).2.1 := by decide +kernel
theorem tyX4_ok : ∀ k, k < 7 → parseFieldDescriptor (TX4 k).2.2.1 = some (tyX4 k) := by decide +kernel
def RX5 : String := "AyeJars$House"
def TX5 : u_T := fun k => match k with
  | 0 => ("AyeJars$House", "breath", "[I", true)
  | 1 => ("AyeJars$House", "keeps", "[I", true)
  | 2 => ("AyeJars$House", "needs", "[I", true)
  | 3 => ("AyeJars$House", "opens", "[I", true)
  | 4 => ("AyeJars$House", "shelf", "[I", true)
  | 5 => ("AyeJars$House", "fade", "LAyeJars$Formula;", true)
  | 6 => ("AyeJars$House", "members", "I", false)
  | 7 => ("AyeJars$House", "bills", "I", false)
  | 8 => ("AyeJars$House", "yawn", "I", false)
  | _ => ("AyeJars$House", "draw", "I", false)
def tyX5 : Nat → FieldType := fun k => match k with
  | 0 => .array .int
  | 1 => .array .int
  | 2 => .array .int
  | 3 => .array .int
  | 4 => .array .int
  | 5 => .object "AyeJars$Formula"
  | 6 => .int
  | 7 => .int
  | 8 => .int
  | _ => .int
theorem nmX5 : ∀ a, a < 10 → ∀ b, b < 10 → a ≠ b → (TX5 a).2.1 ≠ (TX5 b).2.1 := by decide +kernel
theorem tyX5_ok : ∀ k, k < 10 → parseFieldDescriptor (TX5 k).2.2.1 = some (tyX5 k) := by decide +kernel
def RX6 : String := "AyeJars$Jars"
def TX6 : u_T := fun k => match k with
  | 0 => ("AyeJars$Jars", "cells", "[I", true)
  | 1 => ("AyeJars$Jars", "voted", "I", false)
  | 2 => ("AyeJars$Jars", "day", "I", false)
  | _ => ("AyeJars$Jars", "seed", "I", false)
def tyX6 : Nat → FieldType := fun k => match k with
  | 0 => .array .int
  | 1 => .int
  | 2 => .int
  | _ => .int
theorem nmX6 : ∀ a, a < 4 → ∀ b, b < 4 → a ≠ b → (TX6 a).2.1 ≠ (TX6 b).2.1 := by decide +kernel
theorem tyX6_ok : ∀ k, k < 4 → parseFieldDescriptor (TX6 k).2.2.1 = some (tyX6 k) := by decide +kernel
def RX7 : String := "AyeJars$Nose"
def TX7 : u_T := fun k => match k with
  | 0 => ("AyeJars$Nose", "house", "LAyeJars$House;", true)
  | 1 => ("AyeJars$Nose", "trial", "LAyeJars$Trial;", true)
  | 2 => ("AyeJars$Nose", "ages", "[I", true)
  | 3 => ("AyeJars$Nose", "volumes", "[I", true)
  | 4 => ("AyeJars$Nose", "holds", "[Z", true)
  | 5 => ("AyeJars$Nose", "toldAt", "[I", true)
  | 6 => ("AyeJars$Nose", "untoldAt", "[I", true)
  | 7 => ("AyeJars$Nose", "strange", "[[I", true)
  | 8 => ("AyeJars$Nose", "strangeKnown", "Z", false)
  | _ => ("AyeJars$Nose", "told", "I", false)
def tyX7 : Nat → FieldType := fun k => match k with
  | 0 => .object "AyeJars$House"
  | 1 => .object "AyeJars$Trial"
  | 2 => .array .int
  | 3 => .array .int
  | 4 => .array .boolean
  | 5 => .array .int
  | 6 => .array .int
  | 7 => .array (.array .int)
  | 8 => .boolean
  | _ => .int
theorem nmX7 : ∀ a, a < 10 → ∀ b, b < 10 → a ≠ b → (TX7 a).2.1 ≠ (TX7 b).2.1 := by decide +kernel
theorem tyX7_ok : ∀ k, k < 10 → parseFieldDescriptor (TX7 k).2.2.1 = some (tyX7 k) := by decide +kernel
def RX8 : String := "AyeJars$Reader"
def TX8 : u_T := fun k => match k with
  | 0 => ("AyeJars$Reader", "tokens", "LAyeJars$Tokens;", true)
  | 1 => ("AyeJars$Reader", "house", "LAyeJars$House;", true)
  | 2 => ("AyeJars$Reader", "memberNames", "[J", true)
  | 3 => ("AyeJars$Reader", "billNames", "[J", true)
  | 4 => ("AyeJars$Reader", "yawnTold", "Z", false)
  | 5 => ("AyeJars$Reader", "drawTold", "Z", false)
  | 6 => ("AyeJars$Reader", "lastNumber", "I", false)
  | 7 => ("AyeJars$Reader", "fault", "I", false)
  | _ => ("AyeJars$Reader", "faultPlace", "I", false)
def tyX8 : Nat → FieldType := fun k => match k with
  | 0 => .object "AyeJars$Tokens"
  | 1 => .object "AyeJars$House"
  | 2 => .array .long
  | 3 => .array .long
  | 4 => .boolean
  | 5 => .boolean
  | 6 => .int
  | 7 => .int
  | _ => .int
theorem nmX8 : ∀ a, a < 9 → ∀ b, b < 9 → a ≠ b → (TX8 a).2.1 ≠ (TX8 b).2.1 := by decide +kernel
theorem tyX8_ok : ∀ k, k < 9 → parseFieldDescriptor (TX8 k).2.2.1 = some (tyX8 k) := by decide +kernel
def RX9 : String := "AyeJars$Tokens"
def TX9 : u_T := fun k => match k with
  | 0 => ("AyeJars$Tokens", "bytes", "[B", true)
  | 1 => ("AyeJars$Tokens", "length", "I", false)
  | 2 => ("AyeJars$Tokens", "at", "I", false)
  | 3 => ("AyeJars$Tokens", "token", "I", false)
  | 4 => ("AyeJars$Tokens", "place", "I", false)
  | 5 => ("AyeJars$Tokens", "number", "I", false)
  | _ => ("AyeJars$Tokens", "name", "J", false)
def tyX9 : Nat → FieldType := fun k => match k with
  | 0 => .array .byte
  | 1 => .int
  | 2 => .int
  | 3 => .int
  | 4 => .int
  | 5 => .int
  | _ => .long
theorem nmX9 : ∀ a, a < 7 → ∀ b, b < 7 → a ≠ b → (TX9 a).2.1 ≠ (TX9 b).2.1 := by decide +kernel
theorem tyX9_ok : ∀ k, k < 7 → parseFieldDescriptor (TX9 k).2.2.1 = some (tyX9 k) := by decide +kernel
def RX10 : String := "AyeJars$Trial"
def TX10 : u_T := fun k => match k with
  | 0 => ("AyeJars$Trial", "house", "LAyeJars$House;", true)
  | 1 => ("AyeJars$Trial", "volume", "I", false)
  | 2 => ("AyeJars$Trial", "breaths", "I", false)
  | 3 => ("AyeJars$Trial", "age", "I", false)
  | 4 => ("AyeJars$Trial", "shelf", "I", false)
  | 5 => ("AyeJars$Trial", "shaken", "I", false)
  | _ => ("AyeJars$Trial", "day", "I", false)
def tyX10 : Nat → FieldType := fun k => match k with
  | 0 => .object "AyeJars$House"
  | 1 => .int
  | 2 => .int
  | 3 => .int
  | 4 => .int
  | 5 => .int
  | _ => .int
theorem nmX10 : ∀ a, a < 7 → ∀ b, b < 7 → a ≠ b → (TX10 a).2.1 ≠ (TX10 b).2.1 := by decide +kernel
theorem tyX10_ok : ∀ k, k < 7 → parseFieldDescriptor (TX10 k).2.2.1 = some (tyX10 k) := by decide +kernel
def RX11 : String := "AyeJars"
def TX11 : u_T := fun k => match k with
  | 0 => ("AyeJars", "tape", "LAyeJars$Tokens;", true)
  | 1 => ("AyeJars", "house", "LAyeJars$House;", true)
  | 2 => ("AyeJars", "draft", "LAyeJars$House;", true)
  | 3 => ("AyeJars", "reader", "LAyeJars$Reader;", true)
  | 4 => ("AyeJars", "jars", "LAyeJars$Jars;", true)
  | 5 => ("AyeJars", "boxes", "[LAyeJars$Jars;", true)
  | 6 => ("AyeJars", "boxFull", "[Z", true)
  | 7 => ("AyeJars", "acts", "LAyeJars$Acts;", true)
  | 8 => ("AyeJars", "trial", "LAyeJars$Trial;", true)
  | 9 => ("AyeJars", "ahead", "LAyeJars$Ahead;", true)
  | 10 => ("AyeJars", "chances", "LAyeJars$Chances;", true)
  | 11 => ("AyeJars", "choices", "LAyeJars$Choices;", true)
  | 12 => ("AyeJars", "nose", "LAyeJars$Nose;", true)
  | _ => ("AyeJars", "time", "I", false)
def tyX11 : Nat → FieldType := fun k => match k with
  | 0 => .object "AyeJars$Tokens"
  | 1 => .object "AyeJars$House"
  | 2 => .object "AyeJars$House"
  | 3 => .object "AyeJars$Reader"
  | 4 => .object "AyeJars$Jars"
  | 5 => .array (.object "AyeJars$Jars")
  | 6 => .array .boolean
  | 7 => .object "AyeJars$Acts"
  | 8 => .object "AyeJars$Trial"
  | 9 => .object "AyeJars$Ahead"
  | 10 => .object "AyeJars$Chances"
  | 11 => .object "AyeJars$Choices"
  | 12 => .object "AyeJars$Nose"
  | _ => .int
theorem nmX11 : ∀ a, a < 14 → ∀ b, b < 14 → a ≠ b → (TX11 a).2.1 ≠ (TX11 b).2.1 := by decide +kernel
theorem tyX11_ok : ∀ k, k < 14 → parseFieldDescriptor (TX11 k).2.2.1 = some (tyX11 k) := by decide +kernel
def RX12 : String := "AyeJarsModel"
def TX12 : u_T := fun k => match k with
  | 0 => ("AyeJarsModel", "tape", "[B", true)
  | 1 => ("AyeJarsModel", "text", "[B", true)
  | 2 => ("AyeJarsModel", "taped", "I", false)
  | 3 => ("AyeJarsModel", "size", "I", false)
  | 4 => ("AyeJarsModel", "faultKind", "I", false)
  | 5 => ("AyeJarsModel", "faultPlace", "I", false)
  | 6 => ("AyeJarsModel", "at", "I", false)
  | 7 => ("AyeJarsModel", "end", "I", false)
  | 8 => ("AyeJarsModel", "token", "I", false)
  | 9 => ("AyeJarsModel", "number", "I", false)
  | 10 => ("AyeJarsModel", "name", "J", false)
  | 11 => ("AyeJarsModel", "members", "[I", true)
  | 12 => ("AyeJarsModel", "bills", "[I", true)
  | 13 => ("AyeJarsModel", "units", "[I", true)
  | 14 => ("AyeJarsModel", "yawn", "[I", true)
  | 15 => ("AyeJarsModel", "draw", "[I", true)
  | 16 => ("AyeJarsModel", "breath", "[I", true)
  | 17 => ("AyeJarsModel", "keeps", "[I", true)
  | 18 => ("AyeJarsModel", "needs", "[I", true)
  | 19 => ("AyeJarsModel", "opens", "[I", true)
  | 20 => ("AyeJarsModel", "shelfTold", "[I", true)
  | 21 => ("AyeJarsModel", "ruleFrom", "[I", true)
  | 22 => ("AyeJarsModel", "ruleTo", "[I", true)
  | 23 => ("AyeJarsModel", "hasFade", "[Z", true)
  | 24 => ("AyeJarsModel", "hasYawn", "[Z", true)
  | 25 => ("AyeJarsModel", "isDraw", "[Z", true)
  | 26 => ("AyeJarsModel", "mName", "[J", true)
  | 27 => ("AyeJarsModel", "bName", "[J", true)
  | 28 => ("AyeJarsModel", "code", "[I", true)
  | 29 => ("AyeJarsModel", "codeNumber", "[I", true)
  | 30 => ("AyeJarsModel", "eWhat", "[I", true)
  | 31 => ("AyeJarsModel", "eSign", "[I", true)
  | 32 => ("AyeJarsModel", "pile", "[I", true)
  | 33 => ("AyeJarsModel", "bank", "I", false)
  | 34 => ("AyeJarsModel", "rb", "I", false)
  | 35 => ("AyeJarsModel", "codes", "I", false)
  | 36 => ("AyeJarsModel", "within", "I", false)
  | 37 => ("AyeJarsModel", "piled", "I", false)
  | 38 => ("AyeJarsModel", "unitsInRule", "I", false)
  | 39 => ("AyeJarsModel", "jarVolume", "I", false)
  | 40 => ("AyeJarsModel", "jarIn", "I", false)
  | 41 => ("AyeJarsModel", "jarAge", "I", false)
  | 42 => ("AyeJarsModel", "jarShelf", "I", false)
  | 43 => ("AyeJarsModel", "jarShaken", "I", false)
  | 44 => ("AyeJarsModel", "jarDay", "I", false)
  | 45 => ("AyeJarsModel", "all", "[I", true)
  | 46 => ("AyeJarsModel", "was", "[I", true)
  | 47 => ("AyeJarsModel", "acts", "I", false)
  | 48 => ("AyeJarsModel", "undone", "I", false)
  | 49 => ("AyeJarsModel", "kept", "[I", true)
  | 50 => ("AyeJarsModel", "passesWith", "[Z", true)
  | 51 => ("AyeJarsModel", "laidRow", "[I", true)
  | 52 => ("AyeJarsModel", "choice", "[I", true)
  | 53 => ("AyeJarsModel", "laid", "I", false)
  | 54 => ("AyeJarsModel", "queued", "I", false)
  | 55 => ("AyeJarsModel", "sAge", "[I", true)
  | 56 => ("AyeJarsModel", "sVolume", "[I", true)
  | 57 => ("AyeJarsModel", "sIs", "[I", true)
  | 58 => ("AyeJarsModel", "sTold", "[I", true)
  | 59 => ("AyeJarsModel", "sUntold", "[I", true)
  | 60 => ("AyeJarsModel", "inFits", "[I", true)
  | 61 => ("AyeJarsModel", "sniffs", "I", false)
  | 62 => ("AyeJarsModel", "time", "I", false)
  | 63 => ("AyeJarsModel", "fitting", "I", false)
  | 64 => ("AyeJarsModel", "boxAll", "[I", true)
  | _ => ("AyeJarsModel", "isBoxed", "[Z", true)
def tyX12 : Nat → FieldType := fun k => match k with
  | 0 => .array .byte
  | 1 => .array .byte
  | 2 => .int
  | 3 => .int
  | 4 => .int
  | 5 => .int
  | 6 => .int
  | 7 => .int
  | 8 => .int
  | 9 => .int
  | 10 => .long
  | 11 => .array .int
  | 12 => .array .int
  | 13 => .array .int
  | 14 => .array .int
  | 15 => .array .int
  | 16 => .array .int
  | 17 => .array .int
  | 18 => .array .int
  | 19 => .array .int
  | 20 => .array .int
  | 21 => .array .int
  | 22 => .array .int
  | 23 => .array .boolean
  | 24 => .array .boolean
  | 25 => .array .boolean
  | 26 => .array .long
  | 27 => .array .long
  | 28 => .array .int
  | 29 => .array .int
  | 30 => .array .int
  | 31 => .array .int
  | 32 => .array .int
  | 33 => .int
  | 34 => .int
  | 35 => .int
  | 36 => .int
  | 37 => .int
  | 38 => .int
  | 39 => .int
  | 40 => .int
  | 41 => .int
  | 42 => .int
  | 43 => .int
  | 44 => .int
  | 45 => .array .int
  | 46 => .array .int
  | 47 => .int
  | 48 => .int
  | 49 => .array .int
  | 50 => .array .boolean
  | 51 => .array .int
  | 52 => .array .int
  | 53 => .int
  | 54 => .int
  | 55 => .array .int
  | 56 => .array .int
  | 57 => .array .int
  | 58 => .array .int
  | 59 => .array .int
  | 60 => .array .int
  | 61 => .int
  | 62 => .int
  | 63 => .int
  | 64 => .array .int
  | _ => .array .boolean
theorem nmX12 : ∀ a, a < 66 → ∀ b, b < 66 → a ≠ b → (TX12 a).2.1 ≠ (TX12 b).2.1 := by decide +kernel
theorem tyX12_ok : ∀ k, k < 66 → parseFieldDescriptor (TX12 k).2.2.1 = some (tyX12 k) := by decide +kernel
abbrev vwCl : List vw_C := [(RX0, TX0, 4), (RX1, TX1, 3), (RX2, TX2, 6), (RX3, TX3, 15), (RX4, TX4, 7), (RX5, TX5, 10), (RX6, TX6, 4), (RX7, TX7, 10), (RX8, TX8, 9), (RX9, TX9, 7), (RX10, TX10, 7), (RX11, TX11, 14), (RX12, TX12, 66)]
