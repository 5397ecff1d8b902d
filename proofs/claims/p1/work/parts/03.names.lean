def RX1 : String := "Neonworks$Bender"
def TX1 : u_T := fun k => match k with
  | 0 => ("Neonworks$Bender", "shape", "LNeonworks$Walk;", true)
  | 1 => ("Neonworks$Bender", "lying", "[I", true)
  | 2 => ("Neonworks$Bender", "read", "[I", true)
  | _ => ("Neonworks$Bender", "fates", "[I", true)
def tyX1 : Nat → FieldType := fun k => match k with
  | 0 => .object "Neonworks$Walk"
  | 1 => .array .int
  | 2 => .array .int
  | _ => .array .int
abbrev wsX10 : List Cond := u_ws RX1 TX1 4
theorem nmX1 : ∀ a, a < 4 → ∀ b, b < 4 → a ≠ b → (TX1 a).2.1 ≠ (TX1 b).2.1 := by decide +kernel
theorem tyX1_ok : ∀ k, k < 4 → parseFieldDescriptor (TX1 k).2.2.1 = some (tyX1 k) := by decide +kernel
def RX2 : String := "Neonworks$Cam"
def TX2 : u_T := fun k => match k with
  | 0 => ("Neonworks$Cam", "period", "I", true)
  | 1 => ("Neonworks$Cam", "bits", "I", true)
  | _ => ("Neonworks$Cam", "how", "C", false)
def tyX2 : Nat → FieldType := fun k => match k with
  | 0 => .int
  | 1 => .int
  | _ => .char
abbrev wsX20 : List Cond := u_ws RX2 TX2 3
theorem nmX2 : ∀ a, a < 3 → ∀ b, b < 3 → a ≠ b → (TX2 a).2.1 ≠ (TX2 b).2.1 := by decide +kernel
theorem tyX2_ok : ∀ k, k < 3 → parseFieldDescriptor (TX2 k).2.2.1 = some (tyX2 k) := by decide +kernel
def RX4 : String := "Neonworks$Path"
def TX4 : u_T := fun k => match k with
  | 0 => ("Neonworks$Path", "ways", "[I", true)
  | 1 => ("Neonworks$Path", "walk", "LNeonworks$Walk;", true)
  | _ => ("Neonworks$Path", "length", "I", false)
def tyX4 : Nat → FieldType := fun k => match k with
  | 0 => .array .int
  | 1 => .object "Neonworks$Walk"
  | _ => .int
abbrev wsX40 : List Cond := u_ws RX4 TX4 3
theorem nmX4 : ∀ a, a < 3 → ∀ b, b < 3 → a ≠ b → (TX4 a).2.1 ≠ (TX4 b).2.1 := by decide +kernel
theorem tyX4_ok : ∀ k, k < 3 → parseFieldDescriptor (TX4 k).2.2.1 = some (tyX4 k) := by decide +kernel
def RX5 : String := "Neonworks$Sign"
def TX5 : u_T := fun k => match k with
  | 0 => ("Neonworks$Sign", "width", "I", true)
  | 1 => ("Neonworks$Sign", "height", "I", true)
  | 2 => ("Neonworks$Sign", "hung", "Ljava/util/List;", true)
  | 3 => ("Neonworks$Sign", "isWet", "Z", false)
  | 4 => ("Neonworks$Sign", "borne", "I", false)
  | 5 => ("Neonworks$Sign", "meant", "[J", true)
  | 6 => ("Neonworks$Sign", "lastMeantLetters", "I", false)
  | 7 => ("Neonworks$Sign", "words", "I", false)
  | 8 => ("Neonworks$Sign", "isFed", "[Z", true)
  | _ => ("Neonworks$Sign", "watched", "I", false)
def tyX5 : Nat → FieldType := fun k => match k with
  | 0 => .int
  | 1 => .int
  | 2 => .object "java/util/List"
  | 3 => .boolean
  | 4 => .int
  | 5 => .array .long
  | 6 => .int
  | 7 => .int
  | 8 => .array .boolean
  | _ => .int
abbrev wsX50 : List Cond := u_ws RX5 TX5 10
theorem nmX5 : ∀ a, a < 10 → ∀ b, b < 10 → a ≠ b → (TX5 a).2.1 ≠ (TX5 b).2.1 := by decide +kernel
theorem tyX5_ok : ∀ k, k < 10 → parseFieldDescriptor (TX5 k).2.2.1 = some (tyX5 k) := by decide +kernel
def RX6 : String := "Neonworks$Tracer"
def TX6 : u_T := fun k => match k with
  | 0 => ("Neonworks$Tracer", "marksX", "[I", true)
  | 1 => ("Neonworks$Tracer", "marksY", "[I", true)
  | 2 => ("Neonworks$Tracer", "marks", "I", false)
  | 3 => ("Neonworks$Tracer", "cells", "[I", true)
  | 4 => ("Neonworks$Tracer", "left", "I", false)
  | 5 => ("Neonworks$Tracer", "low", "I", false)
  | 6 => ("Neonworks$Tracer", "right", "I", false)
  | _ => ("Neonworks$Tracer", "high", "I", false)
def tyX6 : Nat → FieldType := fun k => match k with
  | 0 => .array .int
  | 1 => .array .int
  | 2 => .int
  | 3 => .array .int
  | 4 => .int
  | 5 => .int
  | 6 => .int
  | _ => .int
abbrev wsX60 : List Cond := u_ws RX6 TX6 8
theorem nmX6 : ∀ a, a < 8 → ∀ b, b < 8 → a ≠ b → (TX6 a).2.1 ≠ (TX6 b).2.1 := by decide +kernel
theorem tyX6_ok : ∀ k, k < 8 → parseFieldDescriptor (TX6 k).2.2.1 = some (tyX6 k) := by decide +kernel
def RX7 : String := "Neonworks$Transformer"
def TX7 : u_T := fun k => match k with
  | 0 => ("Neonworks$Transformer", "row", "Ljava/util/List;", true)
  | _ => ("Neonworks$Transformer", "strength", "I", false)
def tyX7 : Nat → FieldType := fun k => match k with
  | 0 => .object "java/util/List"
  | _ => .int
abbrev wsX70 : List Cond := u_ws RX7 TX7 2
theorem nmX7 : ∀ a, a < 2 → ∀ b, b < 2 → a ≠ b → (TX7 a).2.1 ≠ (TX7 b).2.1 := by decide +kernel
theorem tyX7_ok : ∀ k, k < 2 → parseFieldDescriptor (TX7 k).2.2.1 = some (tyX7 k) := by decide +kernel
def RX9 : String := "Neonworks$Walk"
def TX9 : u_T := fun k => match k with
  | 0 => ("Neonworks$Walk", "places", "[I", true)
  | _ => ("Neonworks$Walk", "last", "I", false)
def tyX9 : Nat → FieldType := fun k => match k with
  | 0 => .array .int
  | _ => .int
abbrev wsX90 : List Cond := u_ws RX9 TX9 2
theorem nmX9 : ∀ a, a < 2 → ∀ b, b < 2 → a ≠ b → (TX9 a).2.1 ≠ (TX9 b).2.1 := by decide +kernel
theorem tyX9_ok : ∀ k, k < 2 → parseFieldDescriptor (TX9 k).2.2.1 = some (tyX9 k) := by decide +kernel
def RX10 : String := "Neonworks$Week"
def TX10 : u_T := fun k => match k with
  | 0 => ("Neonworks$Week", "isRainy", "[Z", true)
  | _ => ("Neonworks$Week", "freeFrom", "[I", true)
def tyX10 : Nat → FieldType := fun k => match k with
  | 0 => .array .boolean
  | _ => .array .int
abbrev wsX100 : List Cond := u_ws RX10 TX10 2
theorem nmX10 : ∀ a, a < 2 → ∀ b, b < 2 → a ≠ b → (TX10 a).2.1 ≠ (TX10 b).2.1 := by decide +kernel
theorem tyX10_ok : ∀ k, k < 2 → parseFieldDescriptor (TX10 k).2.2.1 = some (tyX10 k) := by decide +kernel
def RX11 : String := "Neonworks"
def TX11 : u_T := fun k => match k with
  | 0 => ("Neonworks", "path", "LNeonworks$Path;", true)
  | 1 => ("Neonworks", "bender", "LNeonworks$Bender;", true)
  | 2 => ("Neonworks", "tracer", "LNeonworks$Tracer;", true)
  | 3 => ("Neonworks", "week", "LNeonworks$Week;", true)
  | 4 => ("Neonworks", "tubes", "Ljava/util/List;", true)
  | 5 => ("Neonworks", "transformers", "Ljava/util/List;", true)
  | 6 => ("Neonworks", "signs", "Ljava/util/List;", true)
  | 7 => ("Neonworks", "cams", "Ljava/util/List;", true)
  | _ => ("Neonworks", "yearNow", "I", false)
def tyX11 : Nat → FieldType := fun k => match k with
  | 0 => .object "Neonworks$Path"
  | 1 => .object "Neonworks$Bender"
  | 2 => .object "Neonworks$Tracer"
  | 3 => .object "Neonworks$Week"
  | 4 => .object "java/util/List"
  | 5 => .object "java/util/List"
  | 6 => .object "java/util/List"
  | 7 => .object "java/util/List"
  | _ => .int
abbrev wsX110 : List Cond := u_ws RX11 TX11 9
theorem nmX11 : ∀ a, a < 9 → ∀ b, b < 9 → a ≠ b → (TX11 a).2.1 ≠ (TX11 b).2.1 := by decide +kernel
theorem tyX11_ok : ∀ k, k < 9 → parseFieldDescriptor (TX11 k).2.2.1 = some (tyX11 k) := by decide +kernel
def RX12 : String := "NeonworksModel$Cam"
def TX12 : u_T := fun k => match k with
  | 0 => ("NeonworksModel$Cam", "period", "I", true)
  | 1 => ("NeonworksModel$Cam", "bits", "I", true)
  | _ => ("NeonworksModel$Cam", "how", "C", false)
def tyX12 : Nat → FieldType := fun k => match k with
  | 0 => .int
  | 1 => .int
  | _ => .char
abbrev wsX120 : List Cond := u_ws RX12 TX12 3
theorem nmX12 : ∀ a, a < 3 → ∀ b, b < 3 → a ≠ b → (TX12 a).2.1 ≠ (TX12 b).2.1 := by decide +kernel
theorem tyX12_ok : ∀ k, k < 3 → parseFieldDescriptor (TX12 k).2.2.1 = some (tyX12 k) := by decide +kernel
def RX13 : String := "NeonworksModel$Sign"
def TX13 : u_T := fun k => match k with
  | 0 => ("NeonworksModel$Sign", "width", "I", true)
  | 1 => ("NeonworksModel$Sign", "height", "I", true)
  | 2 => ("NeonworksModel$Sign", "tubes", "Ljava/util/ArrayList;", true)
  | 3 => ("NeonworksModel$Sign", "words", "Ljava/util/ArrayList;", true)
  | 4 => ("NeonworksModel$Sign", "isWet", "Z", false)
  | _ => ("NeonworksModel$Sign", "bears", "I", false)
def tyX13 : Nat → FieldType := fun k => match k with
  | 0 => .int
  | 1 => .int
  | 2 => .object "java/util/ArrayList"
  | 3 => .object "java/util/ArrayList"
  | 4 => .boolean
  | _ => .int
abbrev wsX130 : List Cond := u_ws RX13 TX13 6
theorem nmX13 : ∀ a, a < 6 → ∀ b, b < 6 → a ≠ b → (TX13 a).2.1 ≠ (TX13 b).2.1 := by decide +kernel
theorem tyX13_ok : ∀ k, k < 6 → parseFieldDescriptor (TX13 k).2.2.1 = some (tyX13 k) := by decide +kernel
def RX14 : String := "NeonworksModel$Transformer"
def TX14 : u_T := fun k => match k with
  | 0 => ("NeonworksModel$Transformer", "load", "I", false)
  | _ => ("NeonworksModel$Transformer", "row", "Ljava/util/ArrayList;", true)
def tyX14 : Nat → FieldType := fun k => match k with
  | 0 => .int
  | _ => .object "java/util/ArrayList"
abbrev wsX140 : List Cond := u_ws RX14 TX14 2
theorem nmX14 : ∀ a, a < 2 → ∀ b, b < 2 → a ≠ b → (TX14 a).2.1 ≠ (TX14 b).2.1 := by decide +kernel
theorem tyX14_ok : ∀ k, k < 2 → parseFieldDescriptor (TX14 k).2.2.1 = some (tyX14 k) := by decide +kernel
def RX16 : String := "NeonworksModel"
def TX16 : u_T := fun k => match k with
  | 0 => ("NeonworksModel", "thrown", "I", false)
  | 1 => ("NeonworksModel", "path", "Ljava/lang/String;", false)
  | 2 => ("NeonworksModel", "tubes", "Ljava/util/ArrayList;", true)
  | 3 => ("NeonworksModel", "transformers", "Ljava/util/ArrayList;", true)
  | 4 => ("NeonworksModel", "signs", "Ljava/util/ArrayList;", true)
  | 5 => ("NeonworksModel", "cams", "Ljava/util/ArrayList;", true)
  | 6 => ("NeonworksModel", "marks", "Ljava/util/ArrayList;", true)
  | 7 => ("NeonworksModel", "rains", "[Z", true)
  | _ => ("NeonworksModel", "year", "I", false)
def tyX16 : Nat → FieldType := fun k => match k with
  | 0 => .int
  | 1 => .object "java/lang/String"
  | 2 => .object "java/util/ArrayList"
  | 3 => .object "java/util/ArrayList"
  | 4 => .object "java/util/ArrayList"
  | 5 => .object "java/util/ArrayList"
  | 6 => .object "java/util/ArrayList"
  | 7 => .array .boolean
  | _ => .int
abbrev wsX160 : List Cond := u_ws RX16 TX16 9
theorem nmX16 : ∀ a, a < 9 → ∀ b, b < 9 → a ≠ b → (TX16 a).2.1 ≠ (TX16 b).2.1 := by decide +kernel
theorem tyX16_ok : ∀ k, k < 9 → parseFieldDescriptor (TX16 k).2.2.1 = some (tyX16 k) := by decide +kernel
def RJ0 : String := "java/lang/String"
def TJ0 : u_T := fun k => match k with
  | 0 => ("java/lang/String", "value", "[B", true)
  | 1 => ("java/lang/String", "coder", "B", true)
  | 2 => ("java/lang/String", "hash", "I", false)
  | _ => ("java/lang/String", "hashIsZero", "Z", false)
def tyJ0 : Nat → FieldType := fun k => match k with
  | 0 => .array .byte
  | 1 => .byte
  | 2 => .int
  | _ => .boolean
abbrev wsJ00 : List Cond := u_ws RJ0 TJ0 4
theorem nmJ0 : ∀ a, a < 4 → ∀ b, b < 4 → a ≠ b → (TJ0 a).2.1 ≠ (TJ0 b).2.1 := by decide +kernel
theorem tyJ0_ok : ∀ k, k < 4 → parseFieldDescriptor (TJ0 k).2.2.1 = some (tyJ0 k) := by decide +kernel
def RJ4 : String := "java/lang/StringBuilder"
def TJ4 : u_T := fun k => match k with
  | 0 => ("java/lang/AbstractStringBuilder", "value", "[B", false)
  | 1 => ("java/lang/AbstractStringBuilder", "coder", "B", false)
  | 2 => ("java/lang/AbstractStringBuilder", "maybeLatin1", "Z", false)
  | _ => ("java/lang/AbstractStringBuilder", "count", "I", false)
def tyJ4 : Nat → FieldType := fun k => match k with
  | 0 => .array .byte
  | 1 => .byte
  | 2 => .boolean
  | _ => .int
abbrev wsJ40 : List Cond := u_ws RJ4 TJ4 4
theorem nmJ4 : ∀ a, a < 4 → ∀ b, b < 4 → a ≠ b → (TJ4 a).2.1 ≠ (TJ4 b).2.1 := by decide +kernel
theorem tyJ4_ok : ∀ k, k < 4 → parseFieldDescriptor (TJ4 k).2.2.1 = some (tyJ4 k) := by decide +kernel
def RJx35411 : String := "java/util/ArrayList$Itr"
def TJx35411 : u_T := fun k => match k with
  | 0 => ("java/util/ArrayList$Itr", "cursor", "I", false)
  | 1 => ("java/util/ArrayList$Itr", "lastRet", "I", false)
  | 2 => ("java/util/ArrayList$Itr", "expectedModCount", "I", false)
  | _ => ("java/util/ArrayList$Itr", "this$0", "Ljava/util/ArrayList;", true)
def tyJx35411 : Nat → FieldType := fun k => match k with
  | 0 => .int
  | 1 => .int
  | 2 => .int
  | _ => .object "java/util/ArrayList"
abbrev wsJx354110 : List Cond := u_ws RJx35411 TJx35411 4
theorem nmJx35411 : ∀ a, a < 4 → ∀ b, b < 4 → a ≠ b → (TJx35411 a).2.1 ≠ (TJx35411 b).2.1 := by decide +kernel
theorem tyJx35411_ok : ∀ k, k < 4 → parseFieldDescriptor (TJx35411 k).2.2.1 = some (tyJx35411 k) := by decide +kernel
def RJx4a65c : String := "java/util/ArrayList"
def TJx4a65c : u_T := fun k => match k with
  | 0 => ("java/util/AbstractList", "modCount", "I", false)
  | 1 => ("java/util/ArrayList", "elementData", "[Ljava/lang/Object;", false)
  | _ => ("java/util/ArrayList", "size", "I", false)
def tyJx4a65c : Nat → FieldType := fun k => match k with
  | 0 => .int
  | 1 => .array (.object "java/lang/Object")
  | _ => .int
abbrev wsJx4a65c0 : List Cond := u_ws RJx4a65c TJx4a65c 3
theorem nmJx4a65c : ∀ a, a < 3 → ∀ b, b < 3 → a ≠ b → (TJx4a65c a).2.1 ≠ (TJx4a65c b).2.1 := by decide +kernel
theorem tyJx4a65c_ok : ∀ k, k < 3 → parseFieldDescriptor (TJx4a65c k).2.2.1 = some (tyJx4a65c k) := by decide +kernel
abbrev cX1_init : ByteArray := prog_3_method_1_code
abbrev cX4_init : ByteArray := prog_6_method_1_code
abbrev cX6_init : ByteArray := prog_8_method_1_code
abbrev cX9_init : ByteArray := prog_11_method_1_code
abbrev cX10_init : ByteArray := prog_12_method_1_code
abbrev cX16_fails : ByteArray := prog_14_method_3_code
abbrev cX16_in : ByteArray := prog_14_method_4_code
abbrev cX16_isTube : ByteArray := prog_14_method_19_code
abbrev cX16_failsTube : ByteArray := prog_14_method_20_code
abbrev cX16_isTransformer : ByteArray := prog_14_method_61_code
abbrev cX16_failsTransformer : ByteArray := prog_14_method_63_code
abbrev cX16_isSign : ByteArray := prog_14_method_69_code
abbrev cX16_failsSign : ByteArray := prog_14_method_70_code
abbrev cX16_isCam : ByteArray := prog_14_method_74_code
abbrev cJx35411_hasNext_aae02 : ByteArray := prog_50_method_2_code
abbrev cJx4a65c_size_8abf5 : ByteArray := prog_49_method_8_code
abbrev cJx4a65c_add_9ea2d : ByteArray := prog_49_method_25_code
def yX1_init : MethodName := ⟨RX1, "<init>", "()V"⟩
def yX4_init : MethodName := ⟨RX4, "<init>", "()V"⟩
def yX6_init : MethodName := ⟨RX6, "<init>", "()V"⟩
def yX9_init : MethodName := ⟨RX9, "<init>", "()V"⟩
def yX10_init : MethodName := ⟨RX10, "<init>", "()V"⟩
def yX16_fails : MethodName := ⟨RX16, "fails", "(I)Z"⟩
def yX16_in : MethodName := ⟨RX16, "in", "(III)Z"⟩
def yX16_isTube : MethodName := ⟨RX16, "isTube", "(I)Z"⟩
def yX16_failsTube : MethodName := ⟨RX16, "failsTube", "(I)Z"⟩
def yX16_isTransformer : MethodName := ⟨RX16, "isTransformer", "(I)Z"⟩
def yX16_failsTransformer : MethodName := ⟨RX16, "failsTransformer", "(I)Z"⟩
def yX16_isSign : MethodName := ⟨RX16, "isSign", "(I)Z"⟩
def yX16_failsSign : MethodName := ⟨RX16, "failsSign", "(I)Z"⟩
def yX16_isCam : MethodName := ⟨RX16, "isCam", "(I)Z"⟩
def yJx35411_hasNext_aae02 : MethodName := ⟨RJx35411, "hasNext", "()Z"⟩
def yJx4a65c_size_8abf5 : MethodName := ⟨RJx4a65c, "size", "()I"⟩
def yJx4a65c_add_9ea2d : MethodName := ⟨RJx4a65c, "add", "(Ljava/lang/Object;)Z"⟩
theorem dX16_fails_0 : decode cX16_fails 0 = .ok (.aload_n 0, 1) := by decide +kernel
theorem dX16_fails_1 : decode cX16_fails 1 = .ok (.iload_n 1, 1) := by decide +kernel
theorem dX16_fails_2 : decode cX16_fails 2 = .ok (.putfield 38, 3) := by decide +kernel
theorem dX16_fails_5 : decode cX16_fails 5 = .ok (.iload_n 1, 1) := by decide +kernel
theorem dX16_fails_6 : decode cX16_fails 6 = .ok (.ifCond .le 7, 3) := by decide +kernel
theorem dX16_fails_9 : decode cX16_fails 9 = .ok (.iconst 1, 1) := by decide +kernel
theorem dX16_fails_10 : decode cX16_fails 10 = .ok (.goto 4, 3) := by decide +kernel
theorem dX16_fails_13 : decode cX16_fails 13 = .ok (.iconst 0, 1) := by decide +kernel
theorem dX16_fails_14 : decode cX16_fails 14 = .ok (.ireturn, 1) := by decide +kernel
theorem dX16_in_0 : decode cX16_in 0 = .ok (.iload_n 0, 1) := by decide +kernel
theorem dX16_in_1 : decode cX16_in 1 = .ok (.iload_n 1, 1) := by decide +kernel
theorem dX16_in_2 : decode cX16_in 2 = .ok (.if_icmp .lt 12, 3) := by decide +kernel
theorem dX16_in_5 : decode cX16_in 5 = .ok (.iload_n 0, 1) := by decide +kernel
theorem dX16_in_6 : decode cX16_in 6 = .ok (.iload_n 2, 1) := by decide +kernel
theorem dX16_in_7 : decode cX16_in 7 = .ok (.if_icmp .gt 7, 3) := by decide +kernel
theorem dX16_in_10 : decode cX16_in 10 = .ok (.iconst 1, 1) := by decide +kernel
theorem dX16_in_11 : decode cX16_in 11 = .ok (.goto 4, 3) := by decide +kernel
theorem dX16_in_14 : decode cX16_in 14 = .ok (.iconst 0, 1) := by decide +kernel
theorem dX16_in_15 : decode cX16_in 15 = .ok (.ireturn, 1) := by decide +kernel
theorem dX16_isTube_0 : decode cX16_isTube 0 = .ok (.iload_n 1, 1) := by decide +kernel
theorem dX16_isTube_1 : decode cX16_isTube 1 = .ok (.iconst 0, 1) := by decide +kernel
theorem dX16_isTube_2 : decode cX16_isTube 2 = .ok (.aload_n 0, 1) := by decide +kernel
theorem dX16_isTube_3 : decode cX16_isTube 3 = .ok (.getfield 18, 3) := by decide +kernel
theorem dX16_isTube_6 : decode cX16_isTube 6 = .ok (.invokevirtual 131, 3) := by decide +kernel
theorem dX16_isTube_9 : decode cX16_isTube 9 = .ok (.iconst 1, 1) := by decide +kernel
theorem dX16_isTube_10 : decode cX16_isTube 10 = .ok (.isub, 1) := by decide +kernel
theorem dX16_isTube_11 : decode cX16_isTube 11 = .ok (.invokestatic 127, 3) := by decide +kernel
theorem dX16_isTube_14 : decode cX16_isTube 14 = .ok (.ireturn, 1) := by decide +kernel
theorem dX16_failsTube_0 : decode cX16_failsTube 0 = .ok (.aload_n 0, 1) := by decide +kernel
theorem dX16_failsTube_1 : decode cX16_failsTube 1 = .ok (.aload_n 0, 1) := by decide +kernel
theorem dX16_failsTube_2 : decode cX16_failsTube 2 = .ok (.iload_n 1, 1) := by decide +kernel
theorem dX16_failsTube_3 : decode cX16_failsTube 3 = .ok (.invokevirtual 147, 3) := by decide +kernel
theorem dX16_failsTube_6 : decode cX16_failsTube 6 = .ok (.ifCond .eq 7, 3) := by decide +kernel
theorem dX16_failsTube_13 : decode cX16_failsTube 13 = .ok (.iconst 1, 1) := by decide +kernel
theorem dX16_failsTube_14 : decode cX16_failsTube 14 = .ok (.invokevirtual 54, 3) := by decide +kernel
theorem dX16_failsTube_17 : decode cX16_failsTube 17 = .ok (.ireturn, 1) := by decide +kernel
theorem dX16_isTransformer_0 : decode cX16_isTransformer 0 = .ok (.iload_n 1, 1) := by decide +kernel
theorem dX16_isTransformer_1 : decode cX16_isTransformer 1 = .ok (.iconst 0, 1) := by decide +kernel
theorem dX16_isTransformer_2 : decode cX16_isTransformer 2 = .ok (.aload_n 0, 1) := by decide +kernel
theorem dX16_isTransformer_3 : decode cX16_isTransformer 3 = .ok (.getfield 22, 3) := by decide +kernel
theorem dX16_isTransformer_6 : decode cX16_isTransformer 6 = .ok (.invokevirtual 131, 3) := by decide +kernel
theorem dX16_isTransformer_9 : decode cX16_isTransformer 9 = .ok (.iconst 1, 1) := by decide +kernel
theorem dX16_isTransformer_10 : decode cX16_isTransformer 10 = .ok (.isub, 1) := by decide +kernel
theorem dX16_isTransformer_11 : decode cX16_isTransformer 11 = .ok (.invokestatic 127, 3) := by decide +kernel
theorem dX16_isTransformer_14 : decode cX16_isTransformer 14 = .ok (.ireturn, 1) := by decide +kernel
theorem dX16_failsTransformer_0 : decode cX16_failsTransformer 0 = .ok (.aload_n 0, 1) := by decide +kernel
theorem dX16_failsTransformer_1 : decode cX16_failsTransformer 1 = .ok (.aload_n 0, 1) := by decide +kernel
theorem dX16_failsTransformer_2 : decode cX16_failsTransformer 2 = .ok (.iload_n 1, 1) := by decide +kernel
theorem dX16_failsTransformer_3 : decode cX16_failsTransformer 3 = .ok (.invokevirtual 323, 3) := by decide +kernel
theorem dX16_failsTransformer_6 : decode cX16_failsTransformer 6 = .ok (.ifCond .eq 7, 3) := by decide +kernel
theorem dX16_failsTransformer_13 : decode cX16_failsTransformer 13 = .ok (.iconst 1, 1) := by decide +kernel
theorem dX16_failsTransformer_14 : decode cX16_failsTransformer 14 = .ok (.invokevirtual 54, 3) := by decide +kernel
theorem dX16_failsTransformer_17 : decode cX16_failsTransformer 17 = .ok (.ireturn, 1) := by decide +kernel
theorem dX16_isSign_0 : decode cX16_isSign 0 = .ok (.iload_n 1, 1) := by decide +kernel
theorem dX16_isSign_1 : decode cX16_isSign 1 = .ok (.iconst 0, 1) := by decide +kernel
theorem dX16_isSign_2 : decode cX16_isSign 2 = .ok (.aload_n 0, 1) := by decide +kernel
theorem dX16_isSign_3 : decode cX16_isSign 3 = .ok (.getfield 25, 3) := by decide +kernel
theorem dX16_isSign_6 : decode cX16_isSign 6 = .ok (.invokevirtual 131, 3) := by decide +kernel
theorem dX16_isSign_9 : decode cX16_isSign 9 = .ok (.iconst 1, 1) := by decide +kernel
theorem dX16_isSign_10 : decode cX16_isSign 10 = .ok (.isub, 1) := by decide +kernel
theorem dX16_isSign_11 : decode cX16_isSign 11 = .ok (.invokestatic 127, 3) := by decide +kernel
theorem dX16_isSign_14 : decode cX16_isSign 14 = .ok (.ireturn, 1) := by decide +kernel
theorem dX16_failsSign_0 : decode cX16_failsSign 0 = .ok (.aload_n 0, 1) := by decide +kernel
theorem dX16_failsSign_1 : decode cX16_failsSign 1 = .ok (.aload_n 0, 1) := by decide +kernel
theorem dX16_failsSign_2 : decode cX16_failsSign 2 = .ok (.iload_n 1, 1) := by decide +kernel
theorem dX16_failsSign_3 : decode cX16_failsSign 3 = .ok (.invokevirtual 351, 3) := by decide +kernel
theorem dX16_failsSign_6 : decode cX16_failsSign 6 = .ok (.ifCond .eq 7, 3) := by decide +kernel
theorem dX16_failsSign_13 : decode cX16_failsSign 13 = .ok (.iconst 1, 1) := by decide +kernel
theorem dX16_failsSign_14 : decode cX16_failsSign 14 = .ok (.invokevirtual 54, 3) := by decide +kernel
theorem dX16_failsSign_17 : decode cX16_failsSign 17 = .ok (.ireturn, 1) := by decide +kernel
theorem dX16_isCam_0 : decode cX16_isCam 0 = .ok (.iload_n 1, 1) := by decide +kernel
theorem dX16_isCam_1 : decode cX16_isCam 1 = .ok (.iconst 0, 1) := by decide +kernel
theorem dX16_isCam_2 : decode cX16_isCam 2 = .ok (.aload_n 0, 1) := by decide +kernel
theorem dX16_isCam_3 : decode cX16_isCam 3 = .ok (.getfield 28, 3) := by decide +kernel
theorem dX16_isCam_6 : decode cX16_isCam 6 = .ok (.invokevirtual 131, 3) := by decide +kernel
theorem dX16_isCam_9 : decode cX16_isCam 9 = .ok (.iconst 1, 1) := by decide +kernel
theorem dX16_isCam_10 : decode cX16_isCam 10 = .ok (.isub, 1) := by decide +kernel
theorem dX16_isCam_11 : decode cX16_isCam 11 = .ok (.invokestatic 127, 3) := by decide +kernel
theorem dX16_isCam_14 : decode cX16_isCam 14 = .ok (.ireturn, 1) := by decide +kernel
theorem dJx4a65c_size_8abf5_0 : decode cJx4a65c_size_8abf5 0 = .ok (.aload_n 0, 1) := by decide +kernel
theorem dJx4a65c_size_8abf5_1 : decode cJx4a65c_size_8abf5 1 = .ok (.getfield 48, 3) := by decide +kernel
theorem dJx4a65c_size_8abf5_4 : decode cJx4a65c_size_8abf5 4 = .ok (.ireturn, 1) := by decide +kernel
abbrev kCl : List vw_C := [(RX11, TX11, 9), (RX4, TX4, 3), (RX9, TX9, 2), (RX1, TX1, 4), (RX6, TX6, 8), (RX10, TX10, 2), (RJx4a65c, TJx4a65c, 3), (RX2, TX2, 3), (RX5, TX5, 10), (RX7, TX7, 2), (RX16, TX16, 9), (RX12, TX12, 3), (RX13, TX13, 6), (RX14, TX14, 2), (RJx35411, TJx35411, 4), (RJ4, TJ4, 4), (RJ0, TJ0, 4)]
def kW0 : List Cond := [Cond.code yJx4a65c_size_8abf5 cJx4a65c_size_8abf5 1 (some .int), Cond.fieldLink RJx4a65c 48 "java/util/ArrayList" "size" "I", Cond.code yX16_in cX16_in 3 (some .boolean), Cond.code yX16_isTube cX16_isTube 2 (some .boolean), Cond.fieldLink RX16 18 "NeonworksModel" "tubes" "Ljava/util/ArrayList;", Cond.initialized RJx4a65c, Cond.methodLink RX16 131 yJx4a65c_size_8abf5, Cond.instanceMethod yJx4a65c_size_8abf5, Cond.selects RJx4a65c yJx4a65c_size_8abf5 yJx4a65c_size_8abf5, Cond.initialized RX16, Cond.methodLink RX16 127 yX16_in, Cond.static yX16_in, Cond.code yX16_isTransformer cX16_isTransformer 2 (some .boolean), Cond.fieldLink RX16 22 "NeonworksModel" "transformers" "Ljava/util/ArrayList;", Cond.code yX16_isSign cX16_isSign 2 (some .boolean), Cond.fieldLink RX16 25 "NeonworksModel" "signs" "Ljava/util/ArrayList;", Cond.code yX16_isCam cX16_isCam 2 (some .boolean), Cond.fieldLink RX16 28 "NeonworksModel" "cams" "Ljava/util/ArrayList;", Cond.code yX16_fails cX16_fails 2 (some .boolean), Cond.fieldLink RX16 38 "NeonworksModel" "thrown" "I", Cond.code yX16_failsTube cX16_failsTube 2 (some .boolean), Cond.methodLink RX16 147 yX16_isTube, Cond.instanceMethod yX16_isTube, Cond.selects RX16 yX16_isTube yX16_isTube, Cond.methodLink RX16 54 yX16_fails, Cond.instanceMethod yX16_fails, Cond.selects RX16 yX16_fails yX16_fails, Cond.code yX16_failsTransformer cX16_failsTransformer 2 (some .boolean), Cond.methodLink RX16 323 yX16_isTransformer, Cond.instanceMethod yX16_isTransformer, Cond.selects RX16 yX16_isTransformer yX16_isTransformer, Cond.code yX16_failsSign cX16_failsSign 2 (some .boolean), Cond.methodLink RX16 351 yX16_isSign, Cond.instanceMethod yX16_isSign, Cond.selects RX16 yX16_isSign yX16_isSign]
def lw_all : List Cond := (wsX110 ++ (wsX40 ++ (wsX90 ++ (wsX10 ++ (wsX60 ++ (wsX100 ++ (wsJx4a65c0 ++ (wsX20 ++ (wsX50 ++ (wsX70 ++ (wsX160 ++ (wsX120 ++ (wsX130 ++ (wsX140 ++ (wsJx354110 ++ (wsJ40 ++ (wsJ00 ++ kW0)))))))))))))))))
theorem iaX11 : ∀ w ∈ u_ws RX11 TX11 9, w ∈ lw_all := fun _ h => List.mem_append_left _ (h)
theorem iaX4 : ∀ w ∈ u_ws RX4 TX4 3, w ∈ lw_all := fun _ h => List.mem_append_right _ (List.mem_append_left _ (h))
theorem iaX9 : ∀ w ∈ u_ws RX9 TX9 2, w ∈ lw_all := fun _ h => List.mem_append_right _ (List.mem_append_right _ (List.mem_append_left _ (h)))
theorem iaX1 : ∀ w ∈ u_ws RX1 TX1 4, w ∈ lw_all := fun _ h => List.mem_append_right _ (List.mem_append_right _ (List.mem_append_right _ (List.mem_append_left _ (h))))
theorem iaX6 : ∀ w ∈ u_ws RX6 TX6 8, w ∈ lw_all := fun _ h => List.mem_append_right _ (List.mem_append_right _ (List.mem_append_right _ (List.mem_append_right _ (List.mem_append_left _ (h)))))
theorem iaX10 : ∀ w ∈ u_ws RX10 TX10 2, w ∈ lw_all := fun _ h => List.mem_append_right _ (List.mem_append_right _ (List.mem_append_right _ (List.mem_append_right _ (List.mem_append_right _ (List.mem_append_left _ (h))))))
theorem iaJx4a65c : ∀ w ∈ u_ws RJx4a65c TJx4a65c 3, w ∈ lw_all := fun _ h => List.mem_append_right _ (List.mem_append_right _ (List.mem_append_right _ (List.mem_append_right _ (List.mem_append_right _ (List.mem_append_right _ (List.mem_append_left _ (h)))))))
theorem iaX2 : ∀ w ∈ u_ws RX2 TX2 3, w ∈ lw_all := fun _ h => List.mem_append_right _ (List.mem_append_right _ (List.mem_append_right _ (List.mem_append_right _ (List.mem_append_right _ (List.mem_append_right _ (List.mem_append_right _ (List.mem_append_left _ (h))))))))
theorem iaX5 : ∀ w ∈ u_ws RX5 TX5 10, w ∈ lw_all := fun _ h => List.mem_append_right _ (List.mem_append_right _ (List.mem_append_right _ (List.mem_append_right _ (List.mem_append_right _ (List.mem_append_right _ (List.mem_append_right _ (List.mem_append_right _ (List.mem_append_left _ (h)))))))))
theorem iaX7 : ∀ w ∈ u_ws RX7 TX7 2, w ∈ lw_all := fun _ h => List.mem_append_right _ (List.mem_append_right _ (List.mem_append_right _ (List.mem_append_right _ (List.mem_append_right _ (List.mem_append_right _ (List.mem_append_right _ (List.mem_append_right _ (List.mem_append_right _ (List.mem_append_left _ (h))))))))))
theorem iaX16 : ∀ w ∈ u_ws RX16 TX16 9, w ∈ lw_all := fun _ h => List.mem_append_right _ (List.mem_append_right _ (List.mem_append_right _ (List.mem_append_right _ (List.mem_append_right _ (List.mem_append_right _ (List.mem_append_right _ (List.mem_append_right _ (List.mem_append_right _ (List.mem_append_right _ (List.mem_append_left _ (h)))))))))))
theorem iaX12 : ∀ w ∈ u_ws RX12 TX12 3, w ∈ lw_all := fun _ h => List.mem_append_right _ (List.mem_append_right _ (List.mem_append_right _ (List.mem_append_right _ (List.mem_append_right _ (List.mem_append_right _ (List.mem_append_right _ (List.mem_append_right _ (List.mem_append_right _ (List.mem_append_right _ (List.mem_append_right _ (List.mem_append_left _ (h))))))))))))
theorem iaX13 : ∀ w ∈ u_ws RX13 TX13 6, w ∈ lw_all := fun _ h => List.mem_append_right _ (List.mem_append_right _ (List.mem_append_right _ (List.mem_append_right _ (List.mem_append_right _ (List.mem_append_right _ (List.mem_append_right _ (List.mem_append_right _ (List.mem_append_right _ (List.mem_append_right _ (List.mem_append_right _ (List.mem_append_right _ (List.mem_append_left _ (h)))))))))))))
theorem iaX14 : ∀ w ∈ u_ws RX14 TX14 2, w ∈ lw_all := fun _ h => List.mem_append_right _ (List.mem_append_right _ (List.mem_append_right _ (List.mem_append_right _ (List.mem_append_right _ (List.mem_append_right _ (List.mem_append_right _ (List.mem_append_right _ (List.mem_append_right _ (List.mem_append_right _ (List.mem_append_right _ (List.mem_append_right _ (List.mem_append_right _ (List.mem_append_left _ (h))))))))))))))
theorem iaJx35411 : ∀ w ∈ u_ws RJx35411 TJx35411 4, w ∈ lw_all := fun _ h => List.mem_append_right _ (List.mem_append_right _ (List.mem_append_right _ (List.mem_append_right _ (List.mem_append_right _ (List.mem_append_right _ (List.mem_append_right _ (List.mem_append_right _ (List.mem_append_right _ (List.mem_append_right _ (List.mem_append_right _ (List.mem_append_right _ (List.mem_append_right _ (List.mem_append_right _ (List.mem_append_left _ (h)))))))))))))))
theorem iaJ4 : ∀ w ∈ u_ws RJ4 TJ4 4, w ∈ lw_all := fun _ h => List.mem_append_right _ (List.mem_append_right _ (List.mem_append_right _ (List.mem_append_right _ (List.mem_append_right _ (List.mem_append_right _ (List.mem_append_right _ (List.mem_append_right _ (List.mem_append_right _ (List.mem_append_right _ (List.mem_append_right _ (List.mem_append_right _ (List.mem_append_right _ (List.mem_append_right _ (List.mem_append_right _ (List.mem_append_left _ (h))))))))))))))))
theorem iaJ0 : ∀ w ∈ u_ws RJ0 TJ0 4, w ∈ lw_all := fun _ h => List.mem_append_right _ (List.mem_append_right _ (List.mem_append_right _ (List.mem_append_right _ (List.mem_append_right _ (List.mem_append_right _ (List.mem_append_right _ (List.mem_append_right _ (List.mem_append_right _ (List.mem_append_right _ (List.mem_append_right _ (List.mem_append_right _ (List.mem_append_right _ (List.mem_append_right _ (List.mem_append_right _ (List.mem_append_right _ (List.mem_append_left _ (h)))))))))))))))))
theorem q0 : Cond.code yJx4a65c_size_8abf5 cJx4a65c_size_8abf5 1 (some .int) ∈ lw_all := List.mem_append_right _ (List.mem_append_right _ (List.mem_append_right _ (List.mem_append_right _ (List.mem_append_right _ (List.mem_append_right _ (List.mem_append_right _ (List.mem_append_right _ (List.mem_append_right _ (List.mem_append_right _ (List.mem_append_right _ (List.mem_append_right _ (List.mem_append_right _ (List.mem_append_right _ (List.mem_append_right _ (List.mem_append_right _ (List.mem_append_right _ (List.mem_of_getElem? (i := 0) rfl)))))))))))))))))
theorem q1 : Cond.fieldLink RJx4a65c 48 "java/util/ArrayList" "size" "I" ∈ lw_all := List.mem_append_right _ (List.mem_append_right _ (List.mem_append_right _ (List.mem_append_right _ (List.mem_append_right _ (List.mem_append_right _ (List.mem_append_right _ (List.mem_append_right _ (List.mem_append_right _ (List.mem_append_right _ (List.mem_append_right _ (List.mem_append_right _ (List.mem_append_right _ (List.mem_append_right _ (List.mem_append_right _ (List.mem_append_right _ (List.mem_append_right _ (List.mem_of_getElem? (i := 1) rfl)))))))))))))))))
theorem q2 : Cond.code yX16_in cX16_in 3 (some .boolean) ∈ lw_all := List.mem_append_right _ (List.mem_append_right _ (List.mem_append_right _ (List.mem_append_right _ (List.mem_append_right _ (List.mem_append_right _ (List.mem_append_right _ (List.mem_append_right _ (List.mem_append_right _ (List.mem_append_right _ (List.mem_append_right _ (List.mem_append_right _ (List.mem_append_right _ (List.mem_append_right _ (List.mem_append_right _ (List.mem_append_right _ (List.mem_append_right _ (List.mem_of_getElem? (i := 2) rfl)))))))))))))))))
theorem q3 : Cond.code yX16_isTube cX16_isTube 2 (some .boolean) ∈ lw_all := List.mem_append_right _ (List.mem_append_right _ (List.mem_append_right _ (List.mem_append_right _ (List.mem_append_right _ (List.mem_append_right _ (List.mem_append_right _ (List.mem_append_right _ (List.mem_append_right _ (List.mem_append_right _ (List.mem_append_right _ (List.mem_append_right _ (List.mem_append_right _ (List.mem_append_right _ (List.mem_append_right _ (List.mem_append_right _ (List.mem_append_right _ (List.mem_of_getElem? (i := 3) rfl)))))))))))))))))
theorem q4 : Cond.fieldLink RX16 18 "NeonworksModel" "tubes" "Ljava/util/ArrayList;" ∈ lw_all := List.mem_append_right _ (List.mem_append_right _ (List.mem_append_right _ (List.mem_append_right _ (List.mem_append_right _ (List.mem_append_right _ (List.mem_append_right _ (List.mem_append_right _ (List.mem_append_right _ (List.mem_append_right _ (List.mem_append_right _ (List.mem_append_right _ (List.mem_append_right _ (List.mem_append_right _ (List.mem_append_right _ (List.mem_append_right _ (List.mem_append_right _ (List.mem_of_getElem? (i := 4) rfl)))))))))))))))))
theorem q5 : Cond.initialized RJx4a65c ∈ lw_all := List.mem_append_right _ (List.mem_append_right _ (List.mem_append_right _ (List.mem_append_right _ (List.mem_append_right _ (List.mem_append_right _ (List.mem_append_right _ (List.mem_append_right _ (List.mem_append_right _ (List.mem_append_right _ (List.mem_append_right _ (List.mem_append_right _ (List.mem_append_right _ (List.mem_append_right _ (List.mem_append_right _ (List.mem_append_right _ (List.mem_append_right _ (List.mem_of_getElem? (i := 5) rfl)))))))))))))))))
theorem q6 : Cond.methodLink RX16 131 yJx4a65c_size_8abf5 ∈ lw_all := List.mem_append_right _ (List.mem_append_right _ (List.mem_append_right _ (List.mem_append_right _ (List.mem_append_right _ (List.mem_append_right _ (List.mem_append_right _ (List.mem_append_right _ (List.mem_append_right _ (List.mem_append_right _ (List.mem_append_right _ (List.mem_append_right _ (List.mem_append_right _ (List.mem_append_right _ (List.mem_append_right _ (List.mem_append_right _ (List.mem_append_right _ (List.mem_of_getElem? (i := 6) rfl)))))))))))))))))
theorem q7 : Cond.instanceMethod yJx4a65c_size_8abf5 ∈ lw_all := List.mem_append_right _ (List.mem_append_right _ (List.mem_append_right _ (List.mem_append_right _ (List.mem_append_right _ (List.mem_append_right _ (List.mem_append_right _ (List.mem_append_right _ (List.mem_append_right _ (List.mem_append_right _ (List.mem_append_right _ (List.mem_append_right _ (List.mem_append_right _ (List.mem_append_right _ (List.mem_append_right _ (List.mem_append_right _ (List.mem_append_right _ (List.mem_of_getElem? (i := 7) rfl)))))))))))))))))
theorem q8 : Cond.selects RJx4a65c yJx4a65c_size_8abf5 yJx4a65c_size_8abf5 ∈ lw_all := List.mem_append_right _ (List.mem_append_right _ (List.mem_append_right _ (List.mem_append_right _ (List.mem_append_right _ (List.mem_append_right _ (List.mem_append_right _ (List.mem_append_right _ (List.mem_append_right _ (List.mem_append_right _ (List.mem_append_right _ (List.mem_append_right _ (List.mem_append_right _ (List.mem_append_right _ (List.mem_append_right _ (List.mem_append_right _ (List.mem_append_right _ (List.mem_of_getElem? (i := 8) rfl)))))))))))))))))
theorem q9 : Cond.initialized RX16 ∈ lw_all := List.mem_append_right _ (List.mem_append_right _ (List.mem_append_right _ (List.mem_append_right _ (List.mem_append_right _ (List.mem_append_right _ (List.mem_append_right _ (List.mem_append_right _ (List.mem_append_right _ (List.mem_append_right _ (List.mem_append_right _ (List.mem_append_right _ (List.mem_append_right _ (List.mem_append_right _ (List.mem_append_right _ (List.mem_append_right _ (List.mem_append_right _ (List.mem_of_getElem? (i := 9) rfl)))))))))))))))))
theorem q10 : Cond.methodLink RX16 127 yX16_in ∈ lw_all := List.mem_append_right _ (List.mem_append_right _ (List.mem_append_right _ (List.mem_append_right _ (List.mem_append_right _ (List.mem_append_right _ (List.mem_append_right _ (List.mem_append_right _ (List.mem_append_right _ (List.mem_append_right _ (List.mem_append_right _ (List.mem_append_right _ (List.mem_append_right _ (List.mem_append_right _ (List.mem_append_right _ (List.mem_append_right _ (List.mem_append_right _ (List.mem_of_getElem? (i := 10) rfl)))))))))))))))))
theorem q11 : Cond.static yX16_in ∈ lw_all := List.mem_append_right _ (List.mem_append_right _ (List.mem_append_right _ (List.mem_append_right _ (List.mem_append_right _ (List.mem_append_right _ (List.mem_append_right _ (List.mem_append_right _ (List.mem_append_right _ (List.mem_append_right _ (List.mem_append_right _ (List.mem_append_right _ (List.mem_append_right _ (List.mem_append_right _ (List.mem_append_right _ (List.mem_append_right _ (List.mem_append_right _ (List.mem_of_getElem? (i := 11) rfl)))))))))))))))))
theorem q12 : Cond.code yX16_isTransformer cX16_isTransformer 2 (some .boolean) ∈ lw_all := List.mem_append_right _ (List.mem_append_right _ (List.mem_append_right _ (List.mem_append_right _ (List.mem_append_right _ (List.mem_append_right _ (List.mem_append_right _ (List.mem_append_right _ (List.mem_append_right _ (List.mem_append_right _ (List.mem_append_right _ (List.mem_append_right _ (List.mem_append_right _ (List.mem_append_right _ (List.mem_append_right _ (List.mem_append_right _ (List.mem_append_right _ (List.mem_of_getElem? (i := 12) rfl)))))))))))))))))
theorem q13 : Cond.fieldLink RX16 22 "NeonworksModel" "transformers" "Ljava/util/ArrayList;" ∈ lw_all := List.mem_append_right _ (List.mem_append_right _ (List.mem_append_right _ (List.mem_append_right _ (List.mem_append_right _ (List.mem_append_right _ (List.mem_append_right _ (List.mem_append_right _ (List.mem_append_right _ (List.mem_append_right _ (List.mem_append_right _ (List.mem_append_right _ (List.mem_append_right _ (List.mem_append_right _ (List.mem_append_right _ (List.mem_append_right _ (List.mem_append_right _ (List.mem_of_getElem? (i := 13) rfl)))))))))))))))))
theorem q14 : Cond.code yX16_isSign cX16_isSign 2 (some .boolean) ∈ lw_all := List.mem_append_right _ (List.mem_append_right _ (List.mem_append_right _ (List.mem_append_right _ (List.mem_append_right _ (List.mem_append_right _ (List.mem_append_right _ (List.mem_append_right _ (List.mem_append_right _ (List.mem_append_right _ (List.mem_append_right _ (List.mem_append_right _ (List.mem_append_right _ (List.mem_append_right _ (List.mem_append_right _ (List.mem_append_right _ (List.mem_append_right _ (List.mem_of_getElem? (i := 14) rfl)))))))))))))))))
theorem q15 : Cond.fieldLink RX16 25 "NeonworksModel" "signs" "Ljava/util/ArrayList;" ∈ lw_all := List.mem_append_right _ (List.mem_append_right _ (List.mem_append_right _ (List.mem_append_right _ (List.mem_append_right _ (List.mem_append_right _ (List.mem_append_right _ (List.mem_append_right _ (List.mem_append_right _ (List.mem_append_right _ (List.mem_append_right _ (List.mem_append_right _ (List.mem_append_right _ (List.mem_append_right _ (List.mem_append_right _ (List.mem_append_right _ (List.mem_append_right _ (List.mem_of_getElem? (i := 15) rfl)))))))))))))))))
theorem q16 : Cond.code yX16_isCam cX16_isCam 2 (some .boolean) ∈ lw_all := List.mem_append_right _ (List.mem_append_right _ (List.mem_append_right _ (List.mem_append_right _ (List.mem_append_right _ (List.mem_append_right _ (List.mem_append_right _ (List.mem_append_right _ (List.mem_append_right _ (List.mem_append_right _ (List.mem_append_right _ (List.mem_append_right _ (List.mem_append_right _ (List.mem_append_right _ (List.mem_append_right _ (List.mem_append_right _ (List.mem_append_right _ (List.mem_of_getElem? (i := 16) rfl)))))))))))))))))
theorem q17 : Cond.fieldLink RX16 28 "NeonworksModel" "cams" "Ljava/util/ArrayList;" ∈ lw_all := List.mem_append_right _ (List.mem_append_right _ (List.mem_append_right _ (List.mem_append_right _ (List.mem_append_right _ (List.mem_append_right _ (List.mem_append_right _ (List.mem_append_right _ (List.mem_append_right _ (List.mem_append_right _ (List.mem_append_right _ (List.mem_append_right _ (List.mem_append_right _ (List.mem_append_right _ (List.mem_append_right _ (List.mem_append_right _ (List.mem_append_right _ (List.mem_of_getElem? (i := 17) rfl)))))))))))))))))
theorem q18 : Cond.code yX16_fails cX16_fails 2 (some .boolean) ∈ lw_all := List.mem_append_right _ (List.mem_append_right _ (List.mem_append_right _ (List.mem_append_right _ (List.mem_append_right _ (List.mem_append_right _ (List.mem_append_right _ (List.mem_append_right _ (List.mem_append_right _ (List.mem_append_right _ (List.mem_append_right _ (List.mem_append_right _ (List.mem_append_right _ (List.mem_append_right _ (List.mem_append_right _ (List.mem_append_right _ (List.mem_append_right _ (List.mem_of_getElem? (i := 18) rfl)))))))))))))))))
theorem q19 : Cond.fieldLink RX16 38 "NeonworksModel" "thrown" "I" ∈ lw_all := List.mem_append_right _ (List.mem_append_right _ (List.mem_append_right _ (List.mem_append_right _ (List.mem_append_right _ (List.mem_append_right _ (List.mem_append_right _ (List.mem_append_right _ (List.mem_append_right _ (List.mem_append_right _ (List.mem_append_right _ (List.mem_append_right _ (List.mem_append_right _ (List.mem_append_right _ (List.mem_append_right _ (List.mem_append_right _ (List.mem_append_right _ (List.mem_of_getElem? (i := 19) rfl)))))))))))))))))
theorem q20 : Cond.code yX16_failsTube cX16_failsTube 2 (some .boolean) ∈ lw_all := List.mem_append_right _ (List.mem_append_right _ (List.mem_append_right _ (List.mem_append_right _ (List.mem_append_right _ (List.mem_append_right _ (List.mem_append_right _ (List.mem_append_right _ (List.mem_append_right _ (List.mem_append_right _ (List.mem_append_right _ (List.mem_append_right _ (List.mem_append_right _ (List.mem_append_right _ (List.mem_append_right _ (List.mem_append_right _ (List.mem_append_right _ (List.mem_of_getElem? (i := 20) rfl)))))))))))))))))
theorem q21 : Cond.methodLink RX16 147 yX16_isTube ∈ lw_all := List.mem_append_right _ (List.mem_append_right _ (List.mem_append_right _ (List.mem_append_right _ (List.mem_append_right _ (List.mem_append_right _ (List.mem_append_right _ (List.mem_append_right _ (List.mem_append_right _ (List.mem_append_right _ (List.mem_append_right _ (List.mem_append_right _ (List.mem_append_right _ (List.mem_append_right _ (List.mem_append_right _ (List.mem_append_right _ (List.mem_append_right _ (List.mem_of_getElem? (i := 21) rfl)))))))))))))))))
theorem q22 : Cond.instanceMethod yX16_isTube ∈ lw_all := List.mem_append_right _ (List.mem_append_right _ (List.mem_append_right _ (List.mem_append_right _ (List.mem_append_right _ (List.mem_append_right _ (List.mem_append_right _ (List.mem_append_right _ (List.mem_append_right _ (List.mem_append_right _ (List.mem_append_right _ (List.mem_append_right _ (List.mem_append_right _ (List.mem_append_right _ (List.mem_append_right _ (List.mem_append_right _ (List.mem_append_right _ (List.mem_of_getElem? (i := 22) rfl)))))))))))))))))
theorem q23 : Cond.selects RX16 yX16_isTube yX16_isTube ∈ lw_all := List.mem_append_right _ (List.mem_append_right _ (List.mem_append_right _ (List.mem_append_right _ (List.mem_append_right _ (List.mem_append_right _ (List.mem_append_right _ (List.mem_append_right _ (List.mem_append_right _ (List.mem_append_right _ (List.mem_append_right _ (List.mem_append_right _ (List.mem_append_right _ (List.mem_append_right _ (List.mem_append_right _ (List.mem_append_right _ (List.mem_append_right _ (List.mem_of_getElem? (i := 23) rfl)))))))))))))))))
theorem q24 : Cond.methodLink RX16 54 yX16_fails ∈ lw_all := List.mem_append_right _ (List.mem_append_right _ (List.mem_append_right _ (List.mem_append_right _ (List.mem_append_right _ (List.mem_append_right _ (List.mem_append_right _ (List.mem_append_right _ (List.mem_append_right _ (List.mem_append_right _ (List.mem_append_right _ (List.mem_append_right _ (List.mem_append_right _ (List.mem_append_right _ (List.mem_append_right _ (List.mem_append_right _ (List.mem_append_right _ (List.mem_of_getElem? (i := 24) rfl)))))))))))))))))
theorem q25 : Cond.instanceMethod yX16_fails ∈ lw_all := List.mem_append_right _ (List.mem_append_right _ (List.mem_append_right _ (List.mem_append_right _ (List.mem_append_right _ (List.mem_append_right _ (List.mem_append_right _ (List.mem_append_right _ (List.mem_append_right _ (List.mem_append_right _ (List.mem_append_right _ (List.mem_append_right _ (List.mem_append_right _ (List.mem_append_right _ (List.mem_append_right _ (List.mem_append_right _ (List.mem_append_right _ (List.mem_of_getElem? (i := 25) rfl)))))))))))))))))
theorem q26 : Cond.selects RX16 yX16_fails yX16_fails ∈ lw_all := List.mem_append_right _ (List.mem_append_right _ (List.mem_append_right _ (List.mem_append_right _ (List.mem_append_right _ (List.mem_append_right _ (List.mem_append_right _ (List.mem_append_right _ (List.mem_append_right _ (List.mem_append_right _ (List.mem_append_right _ (List.mem_append_right _ (List.mem_append_right _ (List.mem_append_right _ (List.mem_append_right _ (List.mem_append_right _ (List.mem_append_right _ (List.mem_of_getElem? (i := 26) rfl)))))))))))))))))
theorem q27 : Cond.code yX16_failsTransformer cX16_failsTransformer 2 (some .boolean) ∈ lw_all := List.mem_append_right _ (List.mem_append_right _ (List.mem_append_right _ (List.mem_append_right _ (List.mem_append_right _ (List.mem_append_right _ (List.mem_append_right _ (List.mem_append_right _ (List.mem_append_right _ (List.mem_append_right _ (List.mem_append_right _ (List.mem_append_right _ (List.mem_append_right _ (List.mem_append_right _ (List.mem_append_right _ (List.mem_append_right _ (List.mem_append_right _ (List.mem_of_getElem? (i := 27) rfl)))))))))))))))))
theorem q28 : Cond.methodLink RX16 323 yX16_isTransformer ∈ lw_all := List.mem_append_right _ (List.mem_append_right _ (List.mem_append_right _ (List.mem_append_right _ (List.mem_append_right _ (List.mem_append_right _ (List.mem_append_right _ (List.mem_append_right _ (List.mem_append_right _ (List.mem_append_right _ (List.mem_append_right _ (List.mem_append_right _ (List.mem_append_right _ (List.mem_append_right _ (List.mem_append_right _ (List.mem_append_right _ (List.mem_append_right _ (List.mem_of_getElem? (i := 28) rfl)))))))))))))))))
theorem q29 : Cond.instanceMethod yX16_isTransformer ∈ lw_all := List.mem_append_right _ (List.mem_append_right _ (List.mem_append_right _ (List.mem_append_right _ (List.mem_append_right _ (List.mem_append_right _ (List.mem_append_right _ (List.mem_append_right _ (List.mem_append_right _ (List.mem_append_right _ (List.mem_append_right _ (List.mem_append_right _ (List.mem_append_right _ (List.mem_append_right _ (List.mem_append_right _ (List.mem_append_right _ (List.mem_append_right _ (List.mem_of_getElem? (i := 29) rfl)))))))))))))))))
theorem q30 : Cond.selects RX16 yX16_isTransformer yX16_isTransformer ∈ lw_all := List.mem_append_right _ (List.mem_append_right _ (List.mem_append_right _ (List.mem_append_right _ (List.mem_append_right _ (List.mem_append_right _ (List.mem_append_right _ (List.mem_append_right _ (List.mem_append_right _ (List.mem_append_right _ (List.mem_append_right _ (List.mem_append_right _ (List.mem_append_right _ (List.mem_append_right _ (List.mem_append_right _ (List.mem_append_right _ (List.mem_append_right _ (List.mem_of_getElem? (i := 30) rfl)))))))))))))))))
theorem q31 : Cond.code yX16_failsSign cX16_failsSign 2 (some .boolean) ∈ lw_all := List.mem_append_right _ (List.mem_append_right _ (List.mem_append_right _ (List.mem_append_right _ (List.mem_append_right _ (List.mem_append_right _ (List.mem_append_right _ (List.mem_append_right _ (List.mem_append_right _ (List.mem_append_right _ (List.mem_append_right _ (List.mem_append_right _ (List.mem_append_right _ (List.mem_append_right _ (List.mem_append_right _ (List.mem_append_right _ (List.mem_append_right _ (List.mem_of_getElem? (i := 31) rfl)))))))))))))))))
theorem q32 : Cond.methodLink RX16 351 yX16_isSign ∈ lw_all := List.mem_append_right _ (List.mem_append_right _ (List.mem_append_right _ (List.mem_append_right _ (List.mem_append_right _ (List.mem_append_right _ (List.mem_append_right _ (List.mem_append_right _ (List.mem_append_right _ (List.mem_append_right _ (List.mem_append_right _ (List.mem_append_right _ (List.mem_append_right _ (List.mem_append_right _ (List.mem_append_right _ (List.mem_append_right _ (List.mem_append_right _ (List.mem_of_getElem? (i := 32) rfl)))))))))))))))))
theorem q33 : Cond.instanceMethod yX16_isSign ∈ lw_all := List.mem_append_right _ (List.mem_append_right _ (List.mem_append_right _ (List.mem_append_right _ (List.mem_append_right _ (List.mem_append_right _ (List.mem_append_right _ (List.mem_append_right _ (List.mem_append_right _ (List.mem_append_right _ (List.mem_append_right _ (List.mem_append_right _ (List.mem_append_right _ (List.mem_append_right _ (List.mem_append_right _ (List.mem_append_right _ (List.mem_append_right _ (List.mem_of_getElem? (i := 33) rfl)))))))))))))))))
theorem q34 : Cond.selects RX16 yX16_isSign yX16_isSign ∈ lw_all := List.mem_append_right _ (List.mem_append_right _ (List.mem_append_right _ (List.mem_append_right _ (List.mem_append_right _ (List.mem_append_right _ (List.mem_append_right _ (List.mem_append_right _ (List.mem_append_right _ (List.mem_append_right _ (List.mem_append_right _ (List.mem_append_right _ (List.mem_append_right _ (List.mem_append_right _ (List.mem_append_right _ (List.mem_append_right _ (List.mem_append_right _ (List.mem_of_getElem? (i := 34) rfl)))))))))))))))))
set_option maxRecDepth 100000 in
theorem lw_all_in : GoodIn lw_tbl lw_all := goodIn_p lw_all [308, 2240, 2358, 2568, 2652, 2691, 1960, 2354, 2596, 2660] (by decide +kernel) (by decide +kernel)
def kTexts : List (Nat × String) := []
def kCast : List String := []
def kNot : List (String × String) := []
def kFaces : List (String × MethodName × MethodName) := [(RJx4a65c, ⟨"java/util/List", "size", "()I"⟩, yJx4a65c_size_8abf5), (RJx4a65c, ⟨"java/util/List", "add", "(Ljava/lang/Object;)Z"⟩, yJx4a65c_add_9ea2d), (RJx35411, ⟨"java/util/Iterator", "hasNext", "()Z"⟩, yJx35411_hasNext_aae02)]
theorem kFa_size : ((RJx4a65c, ⟨"java/util/List", "size", "()I"⟩, yJx4a65c_size_8abf5) : String × MethodName × MethodName) ∈ kFaces := List.mem_of_getElem? (i := 0) rfl
theorem kFa_add : ((RJx4a65c, ⟨"java/util/List", "add", "(Ljava/lang/Object;)Z"⟩, yJx4a65c_add_9ea2d) : String × MethodName × MethodName) ∈ kFaces := List.mem_of_getElem? (i := 1) rfl
theorem kFa_hasNext : ((RJx35411, ⟨"java/util/Iterator", "hasNext", "()Z"⟩, yJx35411_hasNext_aae02) : String × MethodName × MethodName) ∈ kFaces := List.mem_of_getElem? (i := 2) rfl
theorem kFaces_ok : ∀ q ∈ kFaces, q.2.1.cls ≠ "java/lang/invoke/MethodHandle" ∧ q.2.1.cls ≠ "java/lang/invoke/VarHandle" := by decide +kernel
def kNest : List (String × Nat × MethodName) := [(RX11, 9, yX4_init), (RX4, 17, yX9_init), (RX11, 18, yX1_init), (RX1, 11, yX9_init), (RX11, 25, yX6_init), (RX11, 32, yX10_init)]
theorem kNe_X11_9 : ((RX11, 9, yX4_init) : String × Nat × MethodName) ∈ kNest := List.mem_of_getElem? (i := 0) rfl
theorem kNe_X4_17 : ((RX4, 17, yX9_init) : String × Nat × MethodName) ∈ kNest := List.mem_of_getElem? (i := 1) rfl
theorem kNe_X11_18 : ((RX11, 18, yX1_init) : String × Nat × MethodName) ∈ kNest := List.mem_of_getElem? (i := 2) rfl
theorem kNe_X1_11 : ((RX1, 11, yX9_init) : String × Nat × MethodName) ∈ kNest := List.mem_of_getElem? (i := 3) rfl
theorem kNe_X11_25 : ((RX11, 25, yX6_init) : String × Nat × MethodName) ∈ kNest := List.mem_of_getElem? (i := 4) rfl
theorem kNe_X11_32 : ((RX11, 32, yX10_init) : String × Nat × MethodName) ∈ kNest := List.mem_of_getElem? (i := 5) rfl
