/-! ===== the world behind both constructors ===== -/
def la0 : Nat → Int32 := (upd (upd (upd (upd (upd (upd (upd (upd (fun _ => 0) (0 : Int32).toNatClampNeg (-1)) (1 : Int32).toNatClampNeg (-1)) (2 : Int32).toNatClampNeg (-1)) (3 : Int32).toNatClampNeg (-1)) (4 : Int32).toNatClampNeg (-1)) (5 : Int32).toNatClampNeg (-1)) (6 : Int32).toNatClampNeg (-1)) (7 : Int32).toNatClampNeg (-1))
def mu0 : Mem := fun a => if a = 11 then la0 else if a = 68 then la0 else fun _ => 0
def W0 (E : En) (w : Nat → va_E) : Nat → va_E := wX10_init E 67 (uw (wX9_init E (uw w 0 (.inr (9, [.null, .null, .null, .null, .null, .null, .null, .null, .null, .null, .null, .int 0, .int 0])))) 67 (.inr (10, [.int 0, .int 0, .null, .null, .null, .null, .null, .null, .null, .int 0, .null, .int 0, .int 0, .int 0, .int 0, .int 0, .int 0, .int 0, .int 0, .null, .null, .null, .null, .null, .int 0, .int 0, .null, .null, .null, .null, .int 0])))
def En2 (E : En) (w : Nat → va_E) (k : Nat) : Prop := ∀ d, Sh[k]? = some d → W0 E w k = ent E mu0 k d
theorem wc_0 {E : En} {w : Nat → va_E} : En2 E w 0 := fun d h => by cases h; rfl
set_option maxRecDepth 200000 in
theorem wc_1 {E : En} {w : Nat → va_E} : En2 E w 1 := fun d h => by cases h; rfl
set_option maxRecDepth 200000 in
theorem wc_3 {E : En} {w : Nat → va_E} : En2 E w 3 := fun d h => by cases h; rfl
set_option maxRecDepth 200000 in
theorem wc_4 {E : En} {w : Nat → va_E} : En2 E w 4 := fun d h => by cases h; rfl
set_option maxRecDepth 200000 in
theorem wc_5 {E : En} {w : Nat → va_E} : En2 E w 5 := fun d h => by cases h; rfl
set_option maxRecDepth 200000 in
theorem wc_6 {E : En} {w : Nat → va_E} : En2 E w 6 := fun d h => by cases h; rfl
set_option maxRecDepth 200000 in
theorem wc_7 {E : En} {w : Nat → va_E} : En2 E w 7 := fun d h => by cases h; rfl
set_option maxRecDepth 200000 in
theorem wc_8 {E : En} {w : Nat → va_E} : En2 E w 8 := fun d h => by cases h; rfl
set_option maxRecDepth 200000 in
theorem wc_9 {E : En} {w : Nat → va_E} : En2 E w 9 := fun d h => by cases h; rfl
set_option maxRecDepth 200000 in
theorem wc_10 {E : En} {w : Nat → va_E} : En2 E w 10 := fun d h => by cases h; rfl
set_option maxRecDepth 200000 in
theorem wc_11 {E : En} {w : Nat → va_E} : En2 E w 11 := fun d h => by cases h; rfl
set_option maxRecDepth 200000 in
theorem wc_12 {E : En} {w : Nat → va_E} : En2 E w 12 := fun d h => by cases h; rfl
set_option maxRecDepth 200000 in
theorem wc_13 {E : En} {w : Nat → va_E} : En2 E w 13 := fun d h => by cases h; rfl
theorem wc_14 {E : En} {w : Nat → va_E} : En2 E w 14 := fun d h => by cases h; rfl
theorem wc_15 {E : En} {w : Nat → va_E} : En2 E w 15 := fun d h => by cases h; rfl
theorem wc_16 {E : En} {w : Nat → va_E} : En2 E w 16 := fun d h => by cases h; rfl
theorem wc_17 {E : En} {w : Nat → va_E} : En2 E w 17 := fun d h => by cases h; rfl
theorem wc_18 {E : En} {w : Nat → va_E} : En2 E w 18 := fun d h => by cases h; rfl
theorem wc_19 {E : En} {w : Nat → va_E} : En2 E w 19 := fun d h => by cases h; rfl
theorem wc_20 {E : En} {w : Nat → va_E} : En2 E w 20 := fun d h => by cases h; rfl
theorem wc_21 {E : En} {w : Nat → va_E} : En2 E w 21 := fun d h => by cases h; rfl
theorem wc_22 {E : En} {w : Nat → va_E} : En2 E w 22 := fun d h => by cases h; rfl
theorem wc_23 {E : En} {w : Nat → va_E} : En2 E w 23 := fun d h => by cases h; rfl
theorem wc_24 {E : En} {w : Nat → va_E} : En2 E w 24 := fun d h => by cases h; rfl
theorem wc_25 {E : En} {w : Nat → va_E} : En2 E w 25 := fun d h => by cases h; rfl
theorem wc_26 {E : En} {w : Nat → va_E} : En2 E w 26 := fun d h => by cases h; rfl
theorem wc_27 {E : En} {w : Nat → va_E} : En2 E w 27 := fun d h => by cases h; rfl
theorem wc_28 {E : En} {w : Nat → va_E} : En2 E w 28 := fun d h => by cases h; rfl
theorem wc_29 {E : En} {w : Nat → va_E} : En2 E w 29 := fun d h => by cases h; rfl
theorem wc_30 {E : En} {w : Nat → va_E} : En2 E w 30 := fun d h => by cases h; rfl
theorem wc_31 {E : En} {w : Nat → va_E} : En2 E w 31 := fun d h => by cases h; rfl
theorem wc_32 {E : En} {w : Nat → va_E} : En2 E w 32 := fun d h => by cases h; rfl
theorem wc_33 {E : En} {w : Nat → va_E} : En2 E w 33 := fun d h => by cases h; rfl
theorem wc_35 {E : En} {w : Nat → va_E} : En2 E w 35 := fun d h => by cases h; rfl
theorem wc_36 {E : En} {w : Nat → va_E} : En2 E w 36 := fun d h => by cases h; rfl
theorem wc_37 {E : En} {w : Nat → va_E} : En2 E w 37 := fun d h => by cases h; rfl
theorem wc_38 {E : En} {w : Nat → va_E} : En2 E w 38 := fun d h => by cases h; rfl
theorem wc_39 {E : En} {w : Nat → va_E} : En2 E w 39 := fun d h => by cases h; rfl
theorem wc_40 {E : En} {w : Nat → va_E} : En2 E w 40 := fun d h => by cases h; rfl
theorem wc_41 {E : En} {w : Nat → va_E} : En2 E w 41 := fun d h => by cases h; rfl
theorem wc_42 {E : En} {w : Nat → va_E} : En2 E w 42 := fun d h => by cases h; rfl
theorem wc_43 {E : En} {w : Nat → va_E} : En2 E w 43 := fun d h => by cases h; rfl
theorem wc_44 {E : En} {w : Nat → va_E} : En2 E w 44 := fun d h => by cases h; rfl
theorem wc_45 {E : En} {w : Nat → va_E} : En2 E w 45 := fun d h => by cases h; rfl
theorem wc_46 {E : En} {w : Nat → va_E} : En2 E w 46 := fun d h => by cases h; rfl
theorem wc_47 {E : En} {w : Nat → va_E} : En2 E w 47 := fun d h => by cases h; rfl
theorem wc_48 {E : En} {w : Nat → va_E} : En2 E w 48 := fun d h => by cases h; rfl
theorem wc_49 {E : En} {w : Nat → va_E} : En2 E w 49 := fun d h => by cases h; rfl
theorem wc_50 {E : En} {w : Nat → va_E} : En2 E w 50 := fun d h => by cases h; rfl
theorem wc_51 {E : En} {w : Nat → va_E} : En2 E w 51 := fun d h => by cases h; rfl
theorem wc_52 {E : En} {w : Nat → va_E} : En2 E w 52 := fun d h => by cases h; rfl
theorem wc_53 {E : En} {w : Nat → va_E} : En2 E w 53 := fun d h => by cases h; rfl
theorem wc_54 {E : En} {w : Nat → va_E} : En2 E w 54 := fun d h => by cases h; rfl
theorem wc_55 {E : En} {w : Nat → va_E} : En2 E w 55 := fun d h => by cases h; rfl
theorem wc_56 {E : En} {w : Nat → va_E} : En2 E w 56 := fun d h => by cases h; rfl
theorem wc_57 {E : En} {w : Nat → va_E} : En2 E w 57 := fun d h => by cases h; rfl
theorem wc_58 {E : En} {w : Nat → va_E} : En2 E w 58 := fun d h => by cases h; rfl
theorem wc_59 {E : En} {w : Nat → va_E} : En2 E w 59 := fun d h => by cases h; rfl
theorem wc_60 {E : En} {w : Nat → va_E} : En2 E w 60 := fun d h => by cases h; rfl
theorem wc_61 {E : En} {w : Nat → va_E} : En2 E w 61 := fun d h => by cases h; rfl
theorem wc_62 {E : En} {w : Nat → va_E} : En2 E w 62 := fun d h => by cases h; rfl
theorem wc_63 {E : En} {w : Nat → va_E} : En2 E w 63 := fun d h => by cases h; rfl
theorem wc_64 {E : En} {w : Nat → va_E} : En2 E w 64 := fun d h => by cases h; rfl
theorem wc_65 {E : En} {w : Nat → va_E} : En2 E w 65 := fun d h => by cases h; rfl
theorem wc_66 {E : En} {w : Nat → va_E} : En2 E w 66 := fun d h => by cases h; rfl
set_option maxRecDepth 200000 in
theorem wc_68 {E : En} {w : Nat → va_E} : En2 E w 68 := fun d h => by cases h; rfl
theorem wc_69 {E : En} {w : Nat → va_E} : En2 E w 69 := fun d h => by cases h; rfl
theorem wc_70 {E : En} {w : Nat → va_E} : En2 E w 70 := fun d h => by cases h; rfl
theorem wc_71 {E : En} {w : Nat → va_E} : En2 E w 71 := fun d h => by cases h; rfl
theorem wc_72 {E : En} {w : Nat → va_E} : En2 E w 72 := fun d h => by cases h; rfl
theorem wc_73 {E : En} {w : Nat → va_E} : En2 E w 73 := fun d h => by cases h; rfl
theorem wc_74 {E : En} {w : Nat → va_E} : En2 E w 74 := fun d h => by cases h; rfl
theorem wc_75 {E : En} {w : Nat → va_E} : En2 E w 75 := fun d h => by cases h; rfl
theorem wc_76 {E : En} {w : Nat → va_E} : En2 E w 76 := fun d h => by cases h; rfl
theorem wc_77 {E : En} {w : Nat → va_E} : En2 E w 77 := fun d h => by cases h; rfl
theorem wc_78 {E : En} {w : Nat → va_E} : En2 E w 78 := fun d h => by cases h; rfl
theorem wc_79 {E : En} {w : Nat → va_E} : En2 E w 79 := fun d h => by cases h; rfl
theorem wc_80 {E : En} {w : Nat → va_E} : En2 E w 80 := fun d h => by cases h; rfl
theorem wc_81 {E : En} {w : Nat → va_E} : En2 E w 81 := fun d h => by cases h; rfl
theorem wc_82 {E : En} {w : Nat → va_E} : En2 E w 82 := fun d h => by cases h; rfl
theorem wc_83 {E : En} {w : Nat → va_E} : En2 E w 83 := fun d h => by cases h; rfl
theorem wc_84 {E : En} {w : Nat → va_E} : En2 E w 84 := fun d h => by cases h; rfl
