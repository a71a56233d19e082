abbrev wxJ7_fill : List Cond := .code yJ7_fill cJ7_fill 4 none :: gT
theorem wxJ7_fill_in : (.code yJ7_fill cJ7_fill 4 none : Cond) ∈ gT := gT_of (List.mem_append_right _ (List.mem_of_getElem? (i := 33) (by decide +kernel))) (by decide +kernel)
theorem g_fill_27 : GoodIn gT (va_wsS RX3 27 yJ7_fill wxJ7_fill) := gT_vS kt_31 kt_32 kt_3 wxJ7_fill_in
def rmX3_init : Room := { frames := 1, cells := 5, slots := 288, locals := 60 }
abbrev wxX3_init : List Cond := .code yX3_init cX3_init 1 none :: gT
theorem wxX3_init_in : (.code yX3_init cX3_init 1 none : Cond) ∈ gT := gT_of (List.mem_append_right _ (List.mem_of_getElem? (i := 29) (by decide +kernel))) (by decide +kernel)
def rmX2_init : Room := { frames := 1, cells := 2, slots := 72, locals := 60 }
abbrev wxX2_init : List Cond := .code yX2_init cX2_init 1 none :: gT
theorem wxX2_init_in : (.code yX2_init cX2_init 1 none : Cond) ∈ gT := gT_of (List.mem_append_right _ (List.mem_of_getElem? (i := 60) (by decide +kernel))) (by decide +kernel)
def rmX0_init : Room := { frames := 1, cells := 10, slots := 1210, locals := 60 }
abbrev wxX0_init : List Cond := .code yX0_init cX0_init 1 none :: gT
theorem wxX0_init_in : (.code yX0_init cX0_init 1 none : Cond) ∈ gT := gT_of (List.mem_append_right _ (List.mem_of_getElem? (i := 74) (by decide +kernel))) (by decide +kernel)
def rmX1_init : Room := { frames := 1, cells := 6, slots := 360, locals := 60 }
abbrev wxX1_init : List Cond := .code yX1_init cX1_init 1 none :: gT
theorem wxX1_init_in : (.code yX1_init cX1_init 1 none : Cond) ∈ gT := gT_of (List.mem_append_right _ (List.mem_of_getElem? (i := 125) (by decide +kernel))) (by decide +kernel)
def rmX4_init : Room := { frames := 2, cells := 27, slots := 1955, locals := 80 }
abbrev wxX4_init : List Cond := .code yX4_init cX4_init 1 none :: gT
theorem wxX4_init_in : (.code yX4_init cX4_init 1 none : Cond) ∈ gT := gT_of (List.mem_append_right _ (List.mem_of_getElem? (i := 21) (by decide +kernel))) (by decide +kernel)
def rmX6_init : Room := { frames := 1, cells := 20, slots := 1680, locals := 60 }
abbrev wxX6_init : List Cond := .code yX6_init cX6_init 2 none :: gT
theorem wxX6_init_in : (.code yX6_init cX6_init 2 none : Cond) ∈ gT := gT_of (List.mem_append_right _ (List.mem_of_getElem? (i := 601) (by decide +kernel))) (by decide +kernel)
