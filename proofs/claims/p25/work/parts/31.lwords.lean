/-! the law: its methods -/
def mL_part : MethodName × ByteArray × Nat × Option FieldType × Nat × Nat × Nat × Nat := (yL_part, cL_part, 2, (some .int), 0, 0, 0, 0)
set_option maxRecDepth 100000 in
theorem gcd_L_part : Cond.code yL_part cL_part 2 (some .int) ∈ wsG := wsG_of 465 (show tables_1[465]? = some (Cond.code yL_part cL_part 2 (some .int)) from rfl) rfl
def mL_drawn : MethodName × ByteArray × Nat × Option FieldType × Nat × Nat × Nat × Nat := (yL_drawn, cL_drawn, 2, (some .int), 0, 0, 0, 0)
set_option maxRecDepth 100000 in
theorem gcd_L_drawn : Cond.code yL_drawn cL_drawn 2 (some .int) ∈ wsG := wsG_of 469 (show tables_1[469]? = some (Cond.code yL_drawn cL_drawn 2 (some .int)) from rfl) rfl
def mL_call : MethodName × ByteArray × Nat × Option FieldType × Nat × Nat × Nat × Nat := (yL_call, cL_call, 6, (some .int), 9, 171, 5, 30)
set_option maxRecDepth 100000 in
theorem gcd_L_call : Cond.code yL_call cL_call 6 (some .int) ∈ wsG := wsG_of 479 (show tables_1[479]? = some (Cond.code yL_call cL_call 6 (some .int)) from rfl) rfl
def mL_told : MethodName × ByteArray × Nat × Option FieldType × Nat × Nat × Nat × Nat := (yL_told, cL_told, 7, (some .int), 10, 196, 5, 30)
set_option maxRecDepth 100000 in
theorem gcd_L_told : Cond.codeWith yL_told cL_told 7 (some .int) [(0, 11, 12, 76), (0, 11, 17, 78), (0, 11, 22, 80)] ∈ wsG := wsG_of 473 (show tables_1[473]? = some (Cond.codeWith yL_told cL_told 7 (some .int) [(0, 11, 12, 76), (0, 11, 17, 78), (0, 11, 22, 80)]) from rfl) rfl
def mL_seen : MethodName × ByteArray × Nat × Option FieldType × Nat × Nat × Nat × Nat := (yL_seen, cL_seen, 5, (some .long), 9, 156, 1135, 6810)
set_option maxRecDepth 100000 in
theorem gcd_L_seen : Cond.code yL_seen cL_seen 5 (some .long) ∈ wsG := wsG_of 701 (show tables_1[701]? = some (Cond.code yL_seen cL_seen 5 (some .long)) from rfl) rfl
def mL_refusesAll : MethodName × ByteArray × Nat × Option FieldType × Nat × Nat × Nat × Nat := (yL_refusesAll, cL_refusesAll, 7, (some .boolean), 11, 222, 30, 180)
set_option maxRecDepth 100000 in
theorem gcd_L_refusesAll : Cond.code yL_refusesAll cL_refusesAll 7 (some .boolean) ∈ wsG := wsG_of 712 (show tables_1[712]? = some (Cond.code yL_refusesAll cL_refusesAll 7 (some .boolean)) from rfl) rfl
def mL_refusesAny : MethodName × ByteArray × Nat × Option FieldType × Nat × Nat × Nat × Nat := (yL_refusesAny, cL_refusesAny, 2, (some .boolean), 12, 248, 445, 2670)
set_option maxRecDepth 100000 in
theorem gcd_L_refusesAny : Cond.code yL_refusesAny cL_refusesAny 2 (some .boolean) ∈ wsG := wsG_of 709 (show tables_1[709]? = some (Cond.code yL_refusesAny cL_refusesAny 2 (some .boolean)) from rfl) rfl
def mL_refused : MethodName × ByteArray × Nat × Option FieldType × Nat × Nat × Nat × Nat := (yL_refused, cL_refused, 4, (some .boolean), 13, 269, 3162, 18972)
set_option maxRecDepth 100000 in
theorem gcd_L_refused : Cond.code yL_refused cL_refused 4 (some .boolean) ∈ wsG := wsG_of 706 (show tables_1[706]? = some (Cond.code yL_refused cL_refused 4 (some .boolean)) from rfl) rfl
def mL_isSibling : MethodName × ByteArray × Nat × Option FieldType × Nat × Nat × Nat × Nat := (yL_isSibling, cL_isSibling, 9, (some .boolean), 8, 135, 20, 120)
set_option maxRecDepth 100000 in
theorem gcd_L_isSibling : Cond.code yL_isSibling cL_isSibling 9 (some .boolean) ∈ wsG := wsG_of 722 (show tables_1[722]? = some (Cond.code yL_isSibling cL_isSibling 9 (some .boolean)) from rfl) rfl
def mL_keys : MethodName × ByteArray × Nat × Option FieldType × Nat × Nat × Nat × Nat := (yL_keys, cL_keys, 5, (some .boolean), 14, 292, 9000, 50000)
set_option maxRecDepth 100000 in
theorem gcd_L_keys : Cond.code yL_keys cL_keys 5 (some .boolean) ∈ wsG := wsG_of 715 (show tables_1[715]? = some (Cond.code yL_keys cL_keys 5 (some .boolean)) from rfl) rfl
def mL_types : MethodName × ByteArray × Nat × Option FieldType × Nat × Nat × Nat × Nat := (yL_types, cL_types, 6, (some .boolean), 7, 111, 16, 96)
set_option maxRecDepth 100000 in
theorem gcd_L_types : Cond.code yL_types cL_types 6 (some .boolean) ∈ wsG := wsG_of 732 (show tables_1[732]? = some (Cond.code yL_types cL_types 6 (some .boolean)) from rfl) rfl
def mL_errorOf : MethodName × ByteArray × Nat × Option FieldType × Nat × Nat × Nat × Nat := (yL_errorOf, cL_errorOf, 5, (some .int), 8, 169, 556, 2551)
set_option maxRecDepth 100000 in
theorem gcd_L_errorOf : Cond.code yL_errorOf cL_errorOf 5 (some .int) ∈ wsG := wsG_of 729 (show tables_1[729]? = some (Cond.code yL_errorOf cL_errorOf 5 (some .int)) from rfl) rfl
def mL_texts : MethodName × ByteArray × Nat × Option FieldType × Nat × Nat × Nat × Nat := (yL_texts, cL_texts, 2, (some .boolean), 11, 222, 11000, 51000)
set_option maxRecDepth 100000 in
theorem gcd_L_texts : Cond.code yL_texts cL_texts 2 (some .boolean) ∈ wsG := wsG_of 726 (show tables_1[726]? = some (Cond.code yL_texts cL_texts 2 (some .boolean)) from rfl) rfl
def mL_law : MethodName × ByteArray × Nat × Option FieldType × Nat × Nat × Nat × Nat := (yL_law, cL_law, 12, ret, 17, 680, 773738, 6780411)
