def rmX4_isBelow : Room := { frames := 0, cells := 0, slots := 0, locals := 0 }
abbrev wxX4_isBelow : List Cond := .code yX4_isBelow cX4_isBelow 2 (some .boolean) :: gT
theorem wxX4_isBelow_in : (.code yX4_isBelow cX4_isBelow 2 (some .boolean) : Cond) ∈ gT := gT_of (List.mem_append_right _ (List.mem_of_getElem? (i := 180) (by decide +kernel))) (by decide +kernel)
def rmX4_needKnown (k : Nat) : Room := { frames := 6, cells := gk k, slots := 6 * gk k, locals := 82 }
abbrev wxX4_needKnown : List Cond := .code yX4_needKnown cX4_needKnown 1 none :: gT
theorem wxX4_needKnown_in : (.code yX4_needKnown cX4_needKnown 1 none : Cond) ∈ gT := gT_of (List.mem_append_right _ (List.mem_of_getElem? (i := 183) (by decide +kernel))) (by decide +kernel)
def rmX4_needRange (k : Nat) : Room := { frames := 6, cells := gk k, slots := 6 * gk k, locals := 82 }
abbrev wxX4_needRange : List Cond := .code yX4_needRange cX4_needRange 1 none :: gT
theorem wxX4_needRange_in : (.code yX4_needRange cX4_needRange 1 none : Cond) ∈ gT := gT_of (List.mem_append_right _ (List.mem_of_getElem? (i := 256) (by decide +kernel))) (by decide +kernel)
def rmX4_rule (k : Nat) : Room := { frames := 7, cells := gk k, slots := 6 * gk k, locals := 102 }
abbrev wxX4_rule : List Cond := .code yX4_rule cX4_rule 6 none :: gT
theorem wxX4_rule_in : (.code yX4_rule cX4_rule 6 none : Cond) ∈ gT := gT_of (List.mem_append_right _ (List.mem_of_getElem? (i := 177) (by decide +kernel))) (by decide +kernel)
def rmX4_weight (k : Nat) : Room := { frames := 7, cells := gk k, slots := 6 * gk k, locals := 102 }
abbrev wxX4_weight : List Cond := .code yX4_weight cX4_weight 4 none :: gT
theorem wxX4_weight_in : (.code yX4_weight cX4_weight 4 none : Cond) ∈ gT := gT_of (List.mem_append_right _ (List.mem_of_getElem? (i := 280) (by decide +kernel))) (by decide +kernel)
def rmX4_needRoom (k : Nat) : Room := { frames := 6, cells := gk k, slots := 6 * gk k, locals := 82 }
abbrev wxX4_needRoom : List Cond := .code yX4_needRoom cX4_needRoom 1 none :: gT
theorem wxX4_needRoom_in : (.code yX4_needRoom cX4_needRoom 1 none : Cond) ∈ gT := gT_of (List.mem_append_right _ (List.mem_of_getElem? (i := 292) (by decide +kernel))) (by decide +kernel)
def rmX2_append : Room := { frames := 0, cells := 0, slots := 0, locals := 0 }
abbrev wxX2_append : List Cond := .code yX2_append cX2_append 3 (some .int) :: gT
theorem wxX2_append_in : (.code yX2_append cX2_append 3 (some .int) : Cond) ∈ gT := gT_of (List.mem_append_right _ (List.mem_of_getElem? (i := 312) (by decide +kernel))) (by decide +kernel)
def rmX4_point (k : Nat) : Room := { frames := 7, cells := gk k, slots := 6 * gk k, locals := 102 }
abbrev wxX4_point : List Cond := .code yX4_point cX4_point 3 (some .int) :: gT
theorem wxX4_point_in : (.code yX4_point cX4_point 3 (some .int) : Cond) ∈ gT := gT_of (List.mem_append_right _ (List.mem_of_getElem? (i := 288) (by decide +kernel))) (by decide +kernel)
def rmX0_latestTime : Room := { frames := 0, cells := 0, slots := 0, locals := 0 }
abbrev wxX0_latestTime : List Cond := .code yX0_latestTime cX0_latestTime 1 (some .int) :: gT
theorem wxX0_latestTime_in : (.code yX0_latestTime cX0_latestTime 1 (some .int) : Cond) ∈ gT := gT_of (List.mem_append_right _ (List.mem_of_getElem? (i := 327) (by decide +kernel))) (by decide +kernel)
def rmX4_needCallData (k : Nat) : Room := { frames := 7, cells := gk k, slots := 6 * gk k, locals := 102 }
abbrev wxX4_needCallData : List Cond := .code yX4_needCallData cX4_needCallData 6 none :: gT
theorem wxX4_needCallData_in : (.code yX4_needCallData cX4_needCallData 6 none : Cond) ∈ gT := gT_of (List.mem_append_right _ (List.mem_of_getElem? (i := 323) (by decide +kernel))) (by decide +kernel)
def rmX0_draft : Room := { frames := 0, cells := 0, slots := 0, locals := 0 }
abbrev wxX0_draft : List Cond := .code yX0_draft cX0_draft 7 (some .int) :: gT
theorem wxX0_draft_in : (.code yX0_draft cX0_draft 7 (some .int) : Cond) ∈ gT := gT_of (List.mem_append_right _ (List.mem_of_getElem? (i := 331) (by decide +kernel))) (by decide +kernel)
def rmX0_isHoax : Room := { frames := 0, cells := 0, slots := 0, locals := 0 }
abbrev wxX0_isHoax : List Cond := .code yX0_isHoax cX0_isHoax 2 (some .boolean) :: gT
theorem wxX0_isHoax_in : (.code yX0_isHoax cX0_isHoax 2 (some .boolean) : Cond) ∈ gT := gT_of (List.mem_append_right _ (List.mem_of_getElem? (i := 347) (by decide +kernel))) (by decide +kernel)
def rmX4_isInOpenEvent : Room := { frames := 0, cells := 0, slots := 0, locals := 0 }
abbrev wxX4_isInOpenEvent : List Cond := .code yX4_isInOpenEvent cX4_isInOpenEvent 2 (some .boolean) :: gT
theorem wxX4_isInOpenEvent_in : (.code yX4_isInOpenEvent cX4_isInOpenEvent 2 (some .boolean) : Cond) ∈ gT := gT_of (List.mem_append_right _ (List.mem_of_getElem? (i := 351) (by decide +kernel))) (by decide +kernel)
def rmX4_canBeReason : Room := { frames := 1, cells := 0, slots := 0, locals := 21 }
abbrev wxX4_canBeReason : List Cond := .code yX4_canBeReason cX4_canBeReason 2 (some .boolean) :: gT
theorem wxX4_canBeReason_in : (.code yX4_canBeReason cX4_canBeReason 2 (some .boolean) : Cond) ∈ gT := gT_of (List.mem_append_right _ (List.mem_of_getElem? (i := 343) (by decide +kernel))) (by decide +kernel)
def rmX4_isWithinSpan : Room := { frames := 0, cells := 0, slots := 0, locals := 0 }
abbrev wxX4_isWithinSpan : List Cond := .code yX4_isWithinSpan cX4_isWithinSpan 3 (some .boolean) :: gT
theorem wxX4_isWithinSpan_in : (.code yX4_isWithinSpan cX4_isWithinSpan 3 (some .boolean) : Cond) ∈ gT := gT_of (List.mem_append_right _ (List.mem_of_getElem? (i := 355) (by decide +kernel))) (by decide +kernel)
def rmX4_latestOfLine : Room := { frames := 2, cells := 0, slots := 0, locals := 42 }
abbrev wxX4_latestOfLine : List Cond := .code yX4_latestOfLine cX4_latestOfLine 3 (some .int) :: gT
theorem wxX4_latestOfLine_in : (.code yX4_latestOfLine cX4_latestOfLine 3 (some .int) : Cond) ∈ gT := gT_of (List.mem_append_right _ (List.mem_of_getElem? (i := 339) (by decide +kernel))) (by decide +kernel)
def rmX4_takeReason : Room := { frames := 0, cells := 0, slots := 0, locals := 0 }
abbrev wxX4_takeReason : List Cond := .code yX4_takeReason cX4_takeReason 4 (some .boolean) :: gT
theorem wxX4_takeReason_in : (.code yX4_takeReason cX4_takeReason 4 (some .boolean) : Cond) ∈ gT := gT_of (List.mem_append_right _ (List.mem_of_getElem? (i := 359) (by decide +kernel))) (by decide +kernel)
def rmX1_isWatchedFor : Room := { frames := 0, cells := 0, slots := 0, locals := 0 }
abbrev wxX1_isWatchedFor : List Cond := .code yX1_isWatchedFor cX1_isWatchedFor 3 (some .boolean) :: gT
theorem wxX1_isWatchedFor_in : (.code yX1_isWatchedFor cX1_isWatchedFor 3 (some .boolean) : Cond) ∈ gT := gT_of (List.mem_append_right _ (List.mem_of_getElem? (i := 367) (by decide +kernel))) (by decide +kernel)
def rmX4_eastOf : Room := { frames := 0, cells := 0, slots := 0, locals := 0 }
abbrev wxX4_eastOf : List Cond := .code yX4_eastOf cX4_eastOf 1 (some .int) :: gT
theorem wxX4_eastOf_in : (.code yX4_eastOf cX4_eastOf 1 (some .int) : Cond) ∈ gT := gT_of (List.mem_append_right _ (List.mem_of_getElem? (i := 381) (by decide +kernel))) (by decide +kernel)
def rmX4_northOf : Room := { frames := 0, cells := 0, slots := 0, locals := 0 }
abbrev wxX4_northOf : List Cond := .code yX4_northOf cX4_northOf 1 (some .int) :: gT
theorem wxX4_northOf_in : (.code yX4_northOf cX4_northOf 1 (some .int) : Cond) ∈ gT := gT_of (List.mem_append_right _ (List.mem_of_getElem? (i := 384) (by decide +kernel))) (by decide +kernel)
def rmX4_squareBetween : Room := { frames := 1, cells := 0, slots := 0, locals := 20 }
abbrev wxX4_squareBetween : List Cond := .code yX4_squareBetween cX4_squareBetween 6 (some .long) :: gT
theorem wxX4_squareBetween_in : (.code yX4_squareBetween cX4_squareBetween 6 (some .long) : Cond) ∈ gT := gT_of (List.mem_append_right _ (List.mem_of_getElem? (i := 387) (by decide +kernel))) (by decide +kernel)
def rmX2_isNearPiece : Room := { frames := 2, cells := 0, slots := 0, locals := 45 }
abbrev wxX2_isNearPiece : List Cond := .code yX2_isNearPiece cX2_isNearPiece 17 (some .boolean) :: gT
theorem wxX2_isNearPiece_in : (.code yX2_isNearPiece cX2_isNearPiece 17 (some .boolean) : Cond) ∈ gT := gT_of (List.mem_append_right _ (List.mem_of_getElem? (i := 378) (by decide +kernel))) (by decide +kernel)
def rmX2_isNear : Room := { frames := 3, cells := 0, slots := 0, locals := 81 }
abbrev wxX2_isNear : List Cond := .code yX2_isNear cX2_isNear 7 (some .boolean) :: gT
theorem wxX2_isNear_in : (.code yX2_isNear cX2_isNear 7 (some .boolean) : Cond) ∈ gT := gT_of (List.mem_append_right _ (List.mem_of_getElem? (i := 375) (by decide +kernel))) (by decide +kernel)
def rmX4_isOnStretch : Room := { frames := 4, cells := 0, slots := 0, locals := 107 }
abbrev wxX4_isOnStretch : List Cond := .code yX4_isOnStretch cX4_isOnStretch 5 (some .boolean) :: gT
theorem wxX4_isOnStretch_in : (.code yX4_isOnStretch cX4_isOnStretch 5 (some .boolean) : Cond) ∈ gT := gT_of (List.mem_append_right _ (List.mem_of_getElem? (i := 371) (by decide +kernel))) (by decide +kernel)
def rmX4_firstOnStretch : Room := { frames := 5, cells := 0, slots := 0, locals := 131 }
abbrev wxX4_firstOnStretch : List Cond := .code yX4_firstOnStretch cX4_firstOnStretch 3 (some .int) :: gT
theorem wxX4_firstOnStretch_in : (.code yX4_firstOnStretch cX4_firstOnStretch 3 (some .int) : Cond) ∈ gT := gT_of (List.mem_append_right _ (List.mem_of_getElem? (i := 363) (by decide +kernel))) (by decide +kernel)
def rmX4_isCandidate : Room := { frames := 2, cells := 0, slots := 0, locals := 42 }
abbrev wxX4_isCandidate : List Cond := .code yX4_isCandidate cX4_isCandidate 3 (some .boolean) :: gT
theorem wxX4_isCandidate_in : (.code yX4_isCandidate cX4_isCandidate 3 (some .boolean) : Cond) ∈ gT := gT_of (List.mem_append_right _ (List.mem_of_getElem? (i := 398) (by decide +kernel))) (by decide +kernel)
def rmX3_weigh : Room := { frames := 0, cells := 0, slots := 0, locals := 0 }
abbrev wxX3_weigh : List Cond := .code yX3_weigh cX3_weigh 6 (some .int) :: gT
theorem wxX3_weigh_in : (.code yX3_weigh cX3_weigh 6 (some .int) : Cond) ∈ gT := gT_of (List.mem_append_right _ (List.mem_of_getElem? (i := 406) (by decide +kernel))) (by decide +kernel)
def rmX3_meetsNeed : Room := { frames := 0, cells := 0, slots := 0, locals := 0 }
abbrev wxX3_meetsNeed : List Cond := .code yX3_meetsNeed cX3_meetsNeed 4 (some .boolean) :: gT
theorem wxX3_meetsNeed_in : (.code yX3_meetsNeed cX3_meetsNeed 4 (some .boolean) : Cond) ∈ gT := gT_of (List.mem_append_right _ (List.mem_of_getElem? (i := 410) (by decide +kernel))) (by decide +kernel)
def rmX4_agreement : Room := { frames := 2, cells := 0, slots := 0, locals := 45 }
abbrev wxX4_agreement : List Cond := .code yX4_agreement cX4_agreement 13 (some .int) :: gT
theorem wxX4_agreement_in : (.code yX4_agreement cX4_agreement 13 (some .int) : Cond) ∈ gT := gT_of (List.mem_append_right _ (List.mem_of_getElem? (i := 402) (by decide +kernel))) (by decide +kernel)
def rmX4_nearestByPlace : Room := { frames := 3, cells := 0, slots := 0, locals := 77 }
abbrev wxX4_nearestByPlace : List Cond := .code yX4_nearestByPlace cX4_nearestByPlace 8 (some .int) :: gT
theorem wxX4_nearestByPlace_in : (.code yX4_nearestByPlace cX4_nearestByPlace 8 (some .int) : Cond) ∈ gT := gT_of (List.mem_append_right _ (List.mem_of_getElem? (i := 394) (by decide +kernel))) (by decide +kernel)
def rmX4_greatestShare : Room := { frames := 3, cells := 0, slots := 0, locals := 77 }
abbrev wxX4_greatestShare : List Cond := .code yX4_greatestShare cX4_greatestShare 9 (some .int) :: gT
theorem wxX4_greatestShare_in : (.code yX4_greatestShare cX4_greatestShare 9 (some .int) : Cond) ∈ gT := gT_of (List.mem_append_right _ (List.mem_of_getElem? (i := 416) (by decide +kernel))) (by decide +kernel)
def rmX4_seekReason : Room := { frames := 6, cells := 0, slots := 0, locals := 153 }
abbrev wxX4_seekReason : List Cond := .code yX4_seekReason cX4_seekReason 2 none :: gT
theorem wxX4_seekReason_in : (.code yX4_seekReason cX4_seekReason 2 none : Cond) ∈ gT := gT_of (List.mem_append_right _ (List.mem_of_getElem? (i := 335) (by decide +kernel))) (by decide +kernel)
def rmX1_begin : Room := { frames := 0, cells := 0, slots := 0, locals := 0 }
abbrev wxX1_begin : List Cond := .code yX1_begin cX1_begin 3 (some .int) :: gT
theorem wxX1_begin_in : (.code yX1_begin cX1_begin 3 (some .int) : Cond) ∈ gT := gT_of (List.mem_append_right _ (List.mem_of_getElem? (i := 420) (by decide +kernel))) (by decide +kernel)
def rmX4_call (k : Nat) : Room := { frames := 8, cells := gk k, slots := 6 * gk k, locals := 174 }
abbrev wxX4_call : List Cond := .code yX4_call cX4_call 9 (some .int) :: gT
theorem wxX4_call_in : (.code yX4_call cX4_call 9 (some .int) : Cond) ∈ gT := gT_of (List.mem_append_right _ (List.mem_of_getElem? (i := 319) (by decide +kernel))) (by decide +kernel)
def rmX4_reasonFor (k : Nat) : Room := { frames := 8, cells := gk k, slots := 6 * gk k, locals := 174 }
abbrev wxX4_reasonFor : List Cond := .code yX4_reasonFor cX4_reasonFor 8 (some .int) :: gT
theorem wxX4_reasonFor_in : (.code yX4_reasonFor cX4_reasonFor 8 (some .int) : Cond) ∈ gT := gT_of (List.mem_append_right _ (List.mem_of_getElem? (i := 427) (by decide +kernel))) (by decide +kernel)
def rmX4_mark (k : Nat) : Room := { frames := 7, cells := gk k, slots := 6 * gk k, locals := 102 }
abbrev wxX4_mark : List Cond := .code yX4_mark cX4_mark 3 none :: gT
theorem wxX4_mark_in : (.code yX4_mark cX4_mark 3 none : Cond) ∈ gT := gT_of (List.mem_append_right _ (List.mem_of_getElem? (i := 434) (by decide +kernel))) (by decide +kernel)
def rmX4_needState (k : Nat) : Room := { frames := 6, cells := gk k, slots := 6 * gk k, locals := 82 }
abbrev wxX4_needState : List Cond := .code yX4_needState cX4_needState 1 none :: gT
theorem wxX4_needState_in : (.code yX4_needState cX4_needState 1 none : Cond) ∈ gT := gT_of (List.mem_append_right _ (List.mem_of_getElem? (i := 445) (by decide +kernel))) (by decide +kernel)
def rmX0_isUnder : Room := { frames := 0, cells := 0, slots := 0, locals := 0 }
abbrev wxX0_isUnder : List Cond := .code yX0_isUnder cX0_isUnder 5 (some .boolean) :: gT
theorem wxX0_isUnder_in : (.code yX0_isUnder cX0_isUnder 5 (some .boolean) : Cond) ∈ gT := gT_of (List.mem_append_right _ (List.mem_of_getElem? (i := 469) (by decide +kernel))) (by decide +kernel)
def rmX0_moveBranch : Room := { frames := 1, cells := 0, slots := 0, locals := 24 }
abbrev wxX0_moveBranch : List Cond := .code yX0_moveBranch cX0_moveBranch 4 none :: gT
theorem wxX0_moveBranch_in : (.code yX0_moveBranch cX0_moveBranch 4 none : Cond) ∈ gT := gT_of (List.mem_append_right _ (List.mem_of_getElem? (i := 465) (by decide +kernel))) (by decide +kernel)
def rmX4_split (k : Nat) : Room := { frames := 7, cells := gk k, slots := 6 * gk k, locals := 102 }
abbrev wxX4_split : List Cond := .code yX4_split cX4_split 3 (some .int) :: gT
theorem wxX4_split_in : (.code yX4_split cX4_split 3 (some .int) : Cond) ∈ gT := gT_of (List.mem_append_right _ (List.mem_of_getElem? (i := 442) (by decide +kernel))) (by decide +kernel)
def rmX0_moveAll : Room := { frames := 0, cells := 0, slots := 0, locals := 0 }
abbrev wxX0_moveAll : List Cond := .code yX0_moveAll cX0_moveAll 4 none :: gT
theorem wxX0_moveAll_in : (.code yX0_moveAll cX0_moveAll 4 none : Cond) ∈ gT := gT_of (List.mem_append_right _ (List.mem_of_getElem? (i := 480) (by decide +kernel))) (by decide +kernel)
def rmX0_countIn : Room := { frames := 0, cells := 0, slots := 0, locals := 0 }
abbrev wxX0_countIn : List Cond := .code yX0_countIn cX0_countIn 4 (some .int) :: gT
theorem wxX0_countIn_in : (.code yX0_countIn cX0_countIn 4 (some .int) : Cond) ∈ gT := gT_of (List.mem_append_right _ (List.mem_of_getElem? (i := 484) (by decide +kernel))) (by decide +kernel)
def rmX4_merge (k : Nat) : Room := { frames := 7, cells := gk k, slots := 6 * gk k, locals := 102 }
abbrev wxX4_merge : List Cond := .code yX4_merge cX4_merge 5 (some .int) :: gT
theorem wxX4_merge_in : (.code yX4_merge cX4_merge 5 (some .int) : Cond) ∈ gT := gT_of (List.mem_append_right _ (List.mem_of_getElem? (i := 476) (by decide +kernel))) (by decide +kernel)
def rmX4_watch (k : Nat) : Room := { frames := 7, cells := gk k, slots := 6 * gk k, locals := 102 }
abbrev wxX4_watch : List Cond := .code yX4_watch cX4_watch 5 none :: gT
theorem wxX4_watch_in : (.code yX4_watch cX4_watch 5 none : Cond) ∈ gT := gT_of (List.mem_append_right _ (List.mem_of_getElem? (i := 491) (by decide +kernel))) (by decide +kernel)
def rmX4_state (k : Nat) : Room := { frames := 7, cells := gk k, slots := 6 * gk k, locals := 102 }
abbrev wxX4_state : List Cond := .code yX4_state cX4_state 3 none :: gT
theorem wxX4_state_in : (.code yX4_state cX4_state 3 none : Cond) ∈ gT := gT_of (List.mem_append_right _ (List.mem_of_getElem? (i := 504) (by decide +kernel))) (by decide +kernel)
def rmX4_needTwoCalls (k : Nat) : Room := { frames := 7, cells := gk k, slots := 6 * gk k, locals := 102 }
abbrev wxX4_needTwoCalls : List Cond := .code yX4_needTwoCalls cX4_needTwoCalls 3 none :: gT
theorem wxX4_needTwoCalls_in : (.code yX4_needTwoCalls cX4_needTwoCalls 3 none : Cond) ∈ gT := gT_of (List.mem_append_right _ (List.mem_of_getElem? (i := 516) (by decide +kernel))) (by decide +kernel)
def rmX4_share (k : Nat) : Room := { frames := 8, cells := gk k, slots := 6 * gk k, locals := 124 }
abbrev wxX4_share : List Cond := .code yX4_share cX4_share 5 (some .int) :: gT
theorem wxX4_share_in : (.code yX4_share cX4_share 5 (some .int) : Cond) ∈ gT := gT_of (List.mem_append_right _ (List.mem_of_getElem? (i := 512) (by decide +kernel))) (by decide +kernel)
def rmX4_agree (k : Nat) : Room := { frames := 8, cells := gk k, slots := 6 * gk k, locals := 124 }
abbrev wxX4_agree : List Cond := .code yX4_agree cX4_agree 3 (some .int) :: gT
theorem wxX4_agree_in : (.code yX4_agree cX4_agree 3 (some .int) : Cond) ∈ gT := gT_of (List.mem_append_right _ (List.mem_of_getElem? (i := 539) (by decide +kernel))) (by decide +kernel)
def rmX4_callAt (k : Nat) : Room := { frames := 7, cells := gk k, slots := 6 * gk k, locals := 102 }
abbrev wxX4_callAt : List Cond := .code yX4_callAt cX4_callAt 3 (some .int) :: gT
theorem wxX4_callAt_in : (.code yX4_callAt cX4_callAt 3 (some .int) : Cond) ∈ gT := gT_of (List.mem_append_right _ (List.mem_of_getElem? (i := 546) (by decide +kernel))) (by decide +kernel)
def rmX0_weighCall : Room := { frames := 0, cells := 0, slots := 0, locals := 0 }
abbrev wxX0_weighCall : List Cond := .code yX0_weighCall cX0_weighCall 3 (some .int) :: gT
theorem wxX0_weighCall_in : (.code yX0_weighCall cX0_weighCall 3 (some .int) : Cond) ∈ gT := gT_of (List.mem_append_right _ (List.mem_of_getElem? (i := 562) (by decide +kernel))) (by decide +kernel)
def rmX0_weighEvent : Room := { frames := 1, cells := 0, slots := 0, locals := 22 }
abbrev wxX0_weighEvent : List Cond := .code yX0_weighEvent cX0_weighEvent 4 (some .int) :: gT
theorem wxX0_weighEvent_in : (.code yX0_weighEvent cX0_weighEvent 4 (some .int) : Cond) ∈ gT := gT_of (List.mem_append_right _ (List.mem_of_getElem? (i := 557) (by decide +kernel))) (by decide +kernel)
def rmX0_pointOf : Room := { frames := 1, cells := 0, slots := 0, locals := 21 }
abbrev wxX0_pointOf : List Cond := .code yX0_pointOf cX0_pointOf 3 (some .int) :: gT
theorem wxX0_pointOf_in : (.code yX0_pointOf cX0_pointOf 3 (some .int) : Cond) ∈ gT := gT_of (List.mem_append_right _ (List.mem_of_getElem? (i := 566) (by decide +kernel))) (by decide +kernel)
def rmX0_latestTimeOf : Room := { frames := 0, cells := 0, slots := 0, locals := 0 }
abbrev wxX0_latestTimeOf : List Cond := .code yX0_latestTimeOf cX0_latestTimeOf 3 (some .int) :: gT
theorem wxX0_latestTimeOf_in : (.code yX0_latestTimeOf cX0_latestTimeOf 3 (some .int) : Cond) ∈ gT := gT_of (List.mem_append_right _ (List.mem_of_getElem? (i := 570) (by decide +kernel))) (by decide +kernel)
def rmX4_eventAt (k : Nat) : Room := { frames := 7, cells := gk k, slots := 6 * gk k, locals := 102 }
abbrev wxX4_eventAt : List Cond := .code yX4_eventAt cX4_eventAt 3 (some .int) :: gT
theorem wxX4_eventAt_in : (.code yX4_eventAt cX4_eventAt 3 (some .int) : Cond) ∈ gT := gT_of (List.mem_append_right _ (List.mem_of_getElem? (i := 553) (by decide +kernel))) (by decide +kernel)
def rmX0_memberOf : Room := { frames := 0, cells := 0, slots := 0, locals := 0 }
abbrev wxX0_memberOf : List Cond := .code yX0_memberOf cX0_memberOf 5 (some .int) :: gT
theorem wxX0_memberOf_in : (.code yX0_memberOf cX0_memberOf 5 (some .int) : Cond) ∈ gT := gT_of (List.mem_append_right _ (List.mem_of_getElem? (i := 581) (by decide +kernel))) (by decide +kernel)
def rmX4_member (k : Nat) : Room := { frames := 7, cells := gk k, slots := 6 * gk k, locals := 102 }
abbrev wxX4_member : List Cond := .code yX4_member cX4_member 4 (some .int) :: gT
theorem wxX4_member_in : (.code yX4_member cX4_member 4 (some .int) : Cond) ∈ gT := gT_of (List.mem_append_right _ (List.mem_of_getElem? (i := 577) (by decide +kernel))) (by decide +kernel)
def rmX1_countOpen : Room := { frames := 0, cells := 0, slots := 0, locals := 0 }
abbrev wxX1_countOpen : List Cond := .code yX1_countOpen cX1_countOpen 3 (some .int) :: gT
theorem wxX1_countOpen_in : (.code yX1_countOpen cX1_countOpen 3 (some .int) : Cond) ∈ gT := gT_of (List.mem_append_right _ (List.mem_of_getElem? (i := 592) (by decide +kernel))) (by decide +kernel)
def rmX0_countHoaxes : Room := { frames := 1, cells := 0, slots := 0, locals := 21 }
abbrev wxX0_countHoaxes : List Cond := .code yX0_countHoaxes cX0_countHoaxes 3 (some .int) :: gT
theorem wxX0_countHoaxes_in : (.code yX0_countHoaxes cX0_countHoaxes 3 (some .int) : Cond) ∈ gT := gT_of (List.mem_append_right _ (List.mem_of_getElem? (i := 596) (by decide +kernel))) (by decide +kernel)
def rmX4_count (k : Nat) : Room := { frames := 7, cells := gk k, slots := 6 * gk k, locals := 102 }
abbrev wxX4_count : List Cond := .code yX4_count cX4_count 2 (some .int) :: gT
theorem wxX4_count_in : (.code yX4_count cX4_count 2 (some .int) : Cond) ∈ gT := gT_of (List.mem_append_right _ (List.mem_of_getElem? (i := 588) (by decide +kernel))) (by decide +kernel)
def rmX6_thrown : Room := { frames := 0, cells := 0, slots := 0, locals := 0 }
abbrev wxX6_thrown : List Cond := .code yX6_thrown cX6_thrown 1 (some .int) :: gT
theorem wxX6_thrown_in : (.code yX6_thrown cX6_thrown 1 (some .int) : Cond) ∈ gT := gT_of (List.mem_append_right _ (List.mem_of_getElem? (i := 679) (by decide +kernel))) (by decide +kernel)
def rmX6_throwing : Room := { frames := 0, cells := 0, slots := 0, locals := 0 }
abbrev wxX6_throwing : List Cond := .code yX6_throwing cX6_throwing 4 (some .boolean) :: gT
theorem wxX6_throwing_in : (.code yX6_throwing cX6_throwing 4 (some .boolean) : Cond) ∈ gT := gT_of (List.mem_append_right _ (List.mem_of_getElem? (i := 694) (by decide +kernel))) (by decide +kernel)
def rmX6_in : Room := { frames := 0, cells := 0, slots := 0, locals := 0 }
abbrev wxX6_in : List Cond := .code yX6_in cX6_in 3 (some .boolean) :: gT
theorem wxX6_in_in : (.code yX6_in cX6_in 3 (some .boolean) : Cond) ∈ gT := gT_of (List.mem_append_right _ (List.mem_of_getElem? (i := 686) (by decide +kernel))) (by decide +kernel)
def rmX6_isKind : Room := { frames := 1, cells := 0, slots := 0, locals := 22 }
abbrev wxX6_isKind : List Cond := .code yX6_isKind cX6_isKind 1 (some .boolean) :: gT
theorem wxX6_isKind_in : (.code yX6_isKind cX6_isKind 1 (some .boolean) : Cond) ∈ gT := gT_of (List.mem_append_right _ (List.mem_of_getElem? (i := 690) (by decide +kernel))) (by decide +kernel)
def rmX6_isRoad : Room := { frames := 1, cells := 0, slots := 0, locals := 22 }
abbrev wxX6_isRoad : List Cond := .code yX6_isRoad cX6_isRoad 1 (some .boolean) :: gT
theorem wxX6_isRoad_in : (.code yX6_isRoad cX6_isRoad 1 (some .boolean) : Cond) ∈ gT := gT_of (List.mem_append_right _ (List.mem_of_getElem? (i := 705) (by decide +kernel))) (by decide +kernel)
def rmX6_isCall : Room := { frames := 1, cells := 0, slots := 0, locals := 22 }
abbrev wxX6_isCall : List Cond := .code yX6_isCall cX6_isCall 2 (some .boolean) :: gT
theorem wxX6_isCall_in : (.code yX6_isCall cX6_isCall 2 (some .boolean) : Cond) ∈ gT := gT_of (List.mem_append_right _ (List.mem_of_getElem? (i := 792) (by decide +kernel))) (by decide +kernel)
def rmX6_isEvent : Room := { frames := 1, cells := 0, slots := 0, locals := 22 }
abbrev wxX6_isEvent : List Cond := .code yX6_isEvent cX6_isEvent 2 (some .boolean) :: gT
theorem wxX6_isEvent_in : (.code yX6_isEvent cX6_isEvent 2 (some .boolean) : Cond) ∈ gT := gT_of (List.mem_append_right _ (List.mem_of_getElem? (i := 804) (by decide +kernel))) (by decide +kernel)
def rmX6_isPoint : Room := { frames := 1, cells := 0, slots := 0, locals := 22 }
abbrev wxX6_isPoint : List Cond := .code yX6_isPoint cX6_isPoint 1 (some .boolean) :: gT
theorem wxX6_isPoint_in : (.code yX6_isPoint cX6_isPoint 1 (some .boolean) : Cond) ∈ gT := gT_of (List.mem_append_right _ (List.mem_of_getElem? (i := 708) (by decide +kernel))) (by decide +kernel)
def rmX6_rule : Room := { frames := 2, cells := 0, slots := 0, locals := 42 }
abbrev wxX6_rule : List Cond := .code yX6_rule cX6_rule 7 none :: gT
theorem wxX6_rule_in : (.code yX6_rule cX6_rule 7 none : Cond) ∈ gT := gT_of (List.mem_append_right _ (List.mem_of_getElem? (i := 683) (by decide +kernel))) (by decide +kernel)
def rmX6_weight : Room := { frames := 2, cells := 0, slots := 0, locals := 42 }
abbrev wxX6_weight : List Cond := .code yX6_weight cX6_weight 4 none :: gT
theorem wxX6_weight_in : (.code yX6_weight cX6_weight 4 none : Cond) ∈ gT := gT_of (List.mem_append_right _ (List.mem_of_getElem? (i := 698) (by decide +kernel))) (by decide +kernel)
def rmX6_point : Room := { frames := 2, cells := 0, slots := 0, locals := 42 }
abbrev wxX6_point : List Cond := .code yX6_point cX6_point 3 (some .int) :: gT
theorem wxX6_point_in : (.code yX6_point cX6_point 3 (some .int) : Cond) ∈ gT := gT_of (List.mem_append_right _ (List.mem_of_getElem? (i := 702) (by decide +kernel))) (by decide +kernel)
def rmX6_squareOf : Room := { frames := 0, cells := 0, slots := 0, locals := 0 }
abbrev wxX6_squareOf : List Cond := .code yX6_squareOf cX6_squareOf 6 (some .long) :: gT
theorem wxX6_squareOf_in : (.code yX6_squareOf cX6_squareOf 6 (some .long) : Cond) ∈ gT := gT_of (List.mem_append_right _ (List.mem_of_getElem? (i := 755) (by decide +kernel))) (by decide +kernel)
def rmX6_sum : Room := { frames := 0, cells := 0, slots := 0, locals := 0 }
abbrev wxX6_sum : List Cond := .code yX6_sum cX6_sum 5 (some .int) :: gT
theorem wxX6_sum_in : (.code yX6_sum cX6_sum 5 (some .int) : Cond) ∈ gT := gT_of (List.mem_append_right _ (List.mem_of_getElem? (i := 767) (by decide +kernel))) (by decide +kernel)
def rmX6_isEnough : Room := { frames := 1, cells := 0, slots := 0, locals := 24 }
abbrev wxX6_isEnough : List Cond := .code yX6_isEnough cX6_isEnough 4 (some .boolean) :: gT
theorem wxX6_isEnough_in : (.code yX6_isEnough cX6_isEnough 4 (some .boolean) : Cond) ∈ gT := gT_of (List.mem_append_right _ (List.mem_of_getElem? (i := 771) (by decide +kernel))) (by decide +kernel)
def rmX6_meets : Room := { frames := 2, cells := 0, slots := 0, locals := 47 }
abbrev wxX6_meets : List Cond := .code yX6_meets cX6_meets 12 (some .int) :: gT
theorem wxX6_meets_in : (.code yX6_meets cX6_meets 12 (some .int) : Cond) ∈ gT := gT_of (List.mem_append_right _ (List.mem_of_getElem? (i := 763) (by decide +kernel))) (by decide +kernel)
def rmX6_isOpen : Room := { frames := 0, cells := 0, slots := 0, locals := 0 }
abbrev wxX6_isOpen : List Cond := .code yX6_isOpen cX6_isOpen 2 (some .boolean) :: gT
theorem wxX6_isOpen_in : (.code yX6_isOpen cX6_isOpen 2 (some .boolean) : Cond) ∈ gT := gT_of (List.mem_append_right _ (List.mem_of_getElem? (i := 732) (by decide +kernel))) (by decide +kernel)
def rmX6_isHoax : Room := { frames := 0, cells := 0, slots := 0, locals := 0 }
abbrev wxX6_isHoax : List Cond := .code yX6_isHoax cX6_isHoax 2 (some .boolean) :: gT
theorem wxX6_isHoax_in : (.code yX6_isHoax cX6_isHoax 2 (some .boolean) : Cond) ∈ gT := gT_of (List.mem_append_right _ (List.mem_of_getElem? (i := 736) (by decide +kernel))) (by decide +kernel)
def rmX6_firstOf : Room := { frames := 0, cells := 0, slots := 0, locals := 0 }
abbrev wxX6_firstOf : List Cond := .code yX6_firstOf cX6_firstOf 3 (some .int) :: gT
theorem wxX6_firstOf_in : (.code yX6_firstOf cX6_firstOf 3 (some .int) : Cond) ∈ gT := gT_of (List.mem_append_right _ (List.mem_of_getElem? (i := 744) (by decide +kernel))) (by decide +kernel)
def rmX6_isBeside : Room := { frames := 1, cells := 0, slots := 0, locals := 25 }
abbrev wxX6_isBeside : List Cond := .code yX6_isBeside cX6_isBeside 17 (some .boolean) :: gT
theorem wxX6_isBeside_in : (.code yX6_isBeside cX6_isBeside 17 (some .boolean) : Cond) ∈ gT := gT_of (List.mem_append_right _ (List.mem_of_getElem? (i := 751) (by decide +kernel))) (by decide +kernel)
def rmX6_isOn : Room := { frames := 2, cells := 0, slots := 0, locals := 61 }
abbrev wxX6_isOn : List Cond := .code yX6_isOn cX6_isOn 8 (some .boolean) :: gT
theorem wxX6_isOn_in : (.code yX6_isOn cX6_isOn 8 (some .boolean) : Cond) ∈ gT := gT_of (List.mem_append_right _ (List.mem_of_getElem? (i := 748) (by decide +kernel))) (by decide +kernel)
def rmX6_again : Room := { frames := 1, cells := 0, slots := 0, locals := 21 }
abbrev wxX6_again : List Cond := .code yX6_again cX6_again 6 (some .int) :: gT
theorem wxX6_again_in : (.code yX6_again cX6_again 6 (some .int) : Cond) ∈ gT := gT_of (List.mem_append_right _ (List.mem_of_getElem? (i := 728) (by decide +kernel))) (by decide +kernel)
def rmX6_onStretch : Room := { frames := 3, cells := 0, slots := 0, locals := 88 }
abbrev wxX6_onStretch : List Cond := .code yX6_onStretch cX6_onStretch 6 (some .int) :: gT
theorem wxX6_onStretch_in : (.code yX6_onStretch cX6_onStretch 6 (some .int) : Cond) ∈ gT := gT_of (List.mem_append_right _ (List.mem_of_getElem? (i := 740) (by decide +kernel))) (by decide +kernel)
def rmX6_isBetter : Room := { frames := 1, cells := 0, slots := 0, locals := 25 }
abbrev wxX6_isBetter : List Cond := .code yX6_isBetter cX6_isBetter 6 (some .boolean) :: gT
theorem wxX6_isBetter_in : (.code yX6_isBetter cX6_isBetter 6 (some .boolean) : Cond) ∈ gT := gT_of (List.mem_append_right _ (List.mem_of_getElem? (i := 776) (by decide +kernel))) (by decide +kernel)
def rmX6_agreeing : Room := { frames := 3, cells := 0, slots := 0, locals := 78 }
abbrev wxX6_agreeing : List Cond := .code yX6_agreeing cX6_agreeing 9 (some .int) :: gT
theorem wxX6_agreeing_in : (.code yX6_agreeing cX6_agreeing 9 (some .int) : Cond) ∈ gT := gT_of (List.mem_append_right _ (List.mem_of_getElem? (i := 759) (by decide +kernel))) (by decide +kernel)
def rmX6_reason : Room := { frames := 4, cells := 0, slots := 0, locals := 113 }
abbrev wxX6_reason : List Cond := .code yX6_reason cX6_reason 8 (some .int) :: gT
theorem wxX6_reason_in : (.code yX6_reason cX6_reason 8 (some .int) : Cond) ∈ gT := gT_of (List.mem_append_right _ (List.mem_of_getElem? (i := 724) (by decide +kernel))) (by decide +kernel)
def rmX6_isRange : Room := { frames := 1, cells := 0, slots := 0, locals := 22 }
abbrev wxX6_isRange : List Cond := .code yX6_isRange cX6_isRange 4 (some .boolean) :: gT
theorem wxX6_isRange_in : (.code yX6_isRange cX6_isRange 4 (some .boolean) : Cond) ∈ gT := gT_of (List.mem_append_right _ (List.mem_of_getElem? (i := 720) (by decide +kernel))) (by decide +kernel)
def rmX6_isKnown : Room := { frames := 2, cells := 0, slots := 0, locals := 42 }
abbrev wxX6_isKnown : List Cond := .code yX6_isKnown cX6_isKnown 2 (some .boolean) :: gT
theorem wxX6_isKnown_in : (.code yX6_isKnown cX6_isKnown 2 (some .boolean) : Cond) ∈ gT := gT_of (List.mem_append_right _ (List.mem_of_getElem? (i := 716) (by decide +kernel))) (by decide +kernel)
def rmX6_newEvent : Room := { frames := 0, cells := 0, slots := 0, locals := 0 }
abbrev wxX6_newEvent : List Cond := .code yX6_newEvent cX6_newEvent 1 (some .int) :: gT
theorem wxX6_newEvent_in : (.code yX6_newEvent cX6_newEvent 1 (some .int) : Cond) ∈ gT := gT_of (List.mem_append_right _ (List.mem_of_getElem? (i := 780) (by decide +kernel))) (by decide +kernel)
def rmX6_call : Room := { frames := 5, cells := 0, slots := 0, locals := 140 }
abbrev wxX6_call : List Cond := .code yX6_call cX6_call 9 (some .int) :: gT
theorem wxX6_call_in : (.code yX6_call cX6_call 9 (some .int) : Cond) ∈ gT := gT_of (List.mem_append_right _ (List.mem_of_getElem? (i := 713) (by decide +kernel))) (by decide +kernel)
def rmX6_reasonFor : Room := { frames := 5, cells := 0, slots := 0, locals := 140 }
abbrev wxX6_reasonFor : List Cond := .code yX6_reasonFor cX6_reasonFor 7 (some .int) :: gT
theorem wxX6_reasonFor_in : (.code yX6_reasonFor cX6_reasonFor 7 (some .int) : Cond) ∈ gT := gT_of (List.mem_append_right _ (List.mem_of_getElem? (i := 784) (by decide +kernel))) (by decide +kernel)
def rmX6_mark : Room := { frames := 2, cells := 0, slots := 0, locals := 43 }
abbrev wxX6_mark : List Cond := .code yX6_mark cX6_mark 3 none :: gT
theorem wxX6_mark_in : (.code yX6_mark cX6_mark 3 none : Cond) ∈ gT := gT_of (List.mem_append_right _ (List.mem_of_getElem? (i := 788) (by decide +kernel))) (by decide +kernel)
def rmX6_split : Room := { frames := 2, cells := 0, slots := 0, locals := 43 }
abbrev wxX6_split : List Cond := .code yX6_split cX6_split 8 (some .int) :: gT
theorem wxX6_split_in : (.code yX6_split cX6_split 8 (some .int) : Cond) ∈ gT := gT_of (List.mem_append_right _ (List.mem_of_getElem? (i := 796) (by decide +kernel))) (by decide +kernel)
def rmX6_size : Room := { frames := 0, cells := 0, slots := 0, locals := 0 }
abbrev wxX6_size : List Cond := .code yX6_size cX6_size 4 (some .int) :: gT
theorem wxX6_size_in : (.code yX6_size cX6_size 4 (some .int) : Cond) ∈ gT := gT_of (List.mem_append_right _ (List.mem_of_getElem? (i := 808) (by decide +kernel))) (by decide +kernel)
def rmX6_merge : Room := { frames := 2, cells := 0, slots := 0, locals := 43 }
abbrev wxX6_merge : List Cond := .code yX6_merge cX6_merge 7 (some .int) :: gT
theorem wxX6_merge_in : (.code yX6_merge cX6_merge 7 (some .int) : Cond) ∈ gT := gT_of (List.mem_append_right _ (List.mem_of_getElem? (i := 800) (by decide +kernel))) (by decide +kernel)
def rmX6_watch : Room := { frames := 2, cells := 0, slots := 0, locals := 43 }
abbrev wxX6_watch : List Cond := .code yX6_watch cX6_watch 7 none :: gT
theorem wxX6_watch_in : (.code yX6_watch cX6_watch 7 none : Cond) ∈ gT := gT_of (List.mem_append_right _ (List.mem_of_getElem? (i := 812) (by decide +kernel))) (by decide +kernel)
def rmX6_state : Room := { frames := 2, cells := 0, slots := 0, locals := 43 }
abbrev wxX6_state : List Cond := .code yX6_state cX6_state 4 none :: gT
theorem wxX6_state_in : (.code yX6_state cX6_state 4 none : Cond) ∈ gT := gT_of (List.mem_append_right _ (List.mem_of_getElem? (i := 816) (by decide +kernel))) (by decide +kernel)
def rmX6_share : Room := { frames := 2, cells := 0, slots := 0, locals := 43 }
abbrev wxX6_share : List Cond := .code yX6_share cX6_share 6 (some .int) :: gT
theorem wxX6_share_in : (.code yX6_share cX6_share 6 (some .int) : Cond) ∈ gT := gT_of (List.mem_append_right _ (List.mem_of_getElem? (i := 820) (by decide +kernel))) (by decide +kernel)
def rmX6_agree : Room := { frames := 3, cells := 0, slots := 0, locals := 78 }
abbrev wxX6_agree : List Cond := .code yX6_agree cX6_agree 6 (some .int) :: gT
theorem wxX6_agree_in : (.code yX6_agree cX6_agree 6 (some .int) : Cond) ∈ gT := gT_of (List.mem_append_right _ (List.mem_of_getElem? (i := 824) (by decide +kernel))) (by decide +kernel)
def rmX6_callAt : Room := { frames := 2, cells := 0, slots := 0, locals := 43 }
abbrev wxX6_callAt : List Cond := .code yX6_callAt cX6_callAt 3 (some .int) :: gT
theorem wxX6_callAt_in : (.code yX6_callAt cX6_callAt 3 (some .int) : Cond) ∈ gT := gT_of (List.mem_append_right _ (List.mem_of_getElem? (i := 828) (by decide +kernel))) (by decide +kernel)
def rmX6_weightOf : Room := { frames := 1, cells := 0, slots := 0, locals := 21 }
abbrev wxX6_weightOf : List Cond := .code yX6_weightOf cX6_weightOf 4 (some .int) :: gT
theorem wxX6_weightOf_in : (.code yX6_weightOf cX6_weightOf 4 (some .int) : Cond) ∈ gT := gT_of (List.mem_append_right _ (List.mem_of_getElem? (i := 836) (by decide +kernel))) (by decide +kernel)
def rmX6_placeOf : Room := { frames := 1, cells := 0, slots := 0, locals := 21 }
abbrev wxX6_placeOf : List Cond := .code yX6_placeOf cX6_placeOf 3 (some .int) :: gT
theorem wxX6_placeOf_in : (.code yX6_placeOf cX6_placeOf 3 (some .int) : Cond) ∈ gT := gT_of (List.mem_append_right _ (List.mem_of_getElem? (i := 840) (by decide +kernel))) (by decide +kernel)
def rmX6_latestOf : Room := { frames := 0, cells := 0, slots := 0, locals := 0 }
abbrev wxX6_latestOf : List Cond := .code yX6_latestOf cX6_latestOf 4 (some .int) :: gT
theorem wxX6_latestOf_in : (.code yX6_latestOf cX6_latestOf 4 (some .int) : Cond) ∈ gT := gT_of (List.mem_append_right _ (List.mem_of_getElem? (i := 844) (by decide +kernel))) (by decide +kernel)
def rmX6_eventAt : Room := { frames := 2, cells := 0, slots := 0, locals := 44 }
abbrev wxX6_eventAt : List Cond := .code yX6_eventAt cX6_eventAt 4 (some .int) :: gT
theorem wxX6_eventAt_in : (.code yX6_eventAt cX6_eventAt 4 (some .int) : Cond) ∈ gT := gT_of (List.mem_append_right _ (List.mem_of_getElem? (i := 832) (by decide +kernel))) (by decide +kernel)
def rmX6_member : Room := { frames := 2, cells := 0, slots := 0, locals := 43 }
abbrev wxX6_member : List Cond := .code yX6_member cX6_member 6 (some .int) :: gT
theorem wxX6_member_in : (.code yX6_member cX6_member 6 (some .int) : Cond) ∈ gT := gT_of (List.mem_append_right _ (List.mem_of_getElem? (i := 848) (by decide +kernel))) (by decide +kernel)
def rmX6_count : Room := { frames := 1, cells := 0, slots := 0, locals := 23 }
abbrev wxX6_count : List Cond := .code yX6_count cX6_count 4 (some .int) :: gT
theorem wxX6_count_in : (.code yX6_count cX6_count 4 (some .int) : Cond) ∈ gT := gT_of (List.mem_append_right _ (List.mem_of_getElem? (i := 852) (by decide +kernel))) (by decide +kernel)
theorem gcjX4_45 : GoodIn gT (wsS RX4 45 yX4_needRange wxX4_needRange) := gT_S kt_254 kt_255 kt_1 wxX4_needRange_in
theorem gcjX4_37 : GoodIn gT (wsS RX4 37 yX4_isBelow wxX4_isBelow) := gT_S kt_178 kt_179 kt_1 wxX4_isBelow_in
theorem gcjX4_41 : GoodIn gT (wsS RX4 41 yX4_needKnown wxX4_needKnown) := gT_S kt_181 kt_182 kt_1 wxX4_needKnown_in
theorem gcjX4_69 : GoodIn gT (wsS RX4 69 yX4_needRoom wxX4_needRoom) := gT_S kt_290 kt_291 kt_1 wxX4_needRoom_in
theorem gcjX4_72 : GoodIn gT (wsV RX4 72 RX2 yX2_append wxX2_append) := gT_V kt_309 kt_310 kt_311 kt_4 wxX2_append_in
theorem gcjX4_210 : GoodIn gT (wsV RX4 210 RX0 yX0_latestTime wxX0_latestTime) := gT_V kt_324 kt_325 kt_326 kt_5 wxX0_latestTime_in
theorem gcjX4_213 : GoodIn gT (wsV RX4 213 RX0 yX0_isHoax wxX0_isHoax) := gT_V kt_344 kt_345 kt_346 kt_5 wxX0_isHoax_in
theorem gcjX4_104 : GoodIn gT (wsV RX4 104 RX4 yX4_isInOpenEvent wxX4_isInOpenEvent) := gT_V kt_348 kt_350 ks_X4_isInOpenEvent kt_1 wxX4_isInOpenEvent_in
theorem gcjX4_235 : GoodIn gT (wsV RX4 235 RX4 yX4_canBeReason wxX4_canBeReason) := gT_V kt_340 kt_342 ks_X4_canBeReason kt_1 wxX4_canBeReason_in
theorem gcjX4_238 : GoodIn gT (wsV RX4 238 RX4 yX4_isWithinSpan wxX4_isWithinSpan) := gT_V kt_352 kt_354 ks_X4_isWithinSpan kt_1 wxX4_isWithinSpan_in
theorem gcjX4_270 : GoodIn gT (wsS RX4 270 yX4_eastOf wxX4_eastOf) := gT_S kt_388 kt_380 kt_1 wxX4_eastOf_in
theorem gcjX4_273 : GoodIn gT (wsS RX4 273 yX4_northOf wxX4_northOf) := gT_S kt_389 kt_383 kt_1 wxX4_northOf_in
theorem gcjX2_18 : GoodIn gT (wsS RX2 18 yX2_isNearPiece wxX2_isNearPiece) := gT_S kt_376 kt_377 kt_4 wxX2_isNearPiece_in
theorem gcjX4_251 : GoodIn gT (wsV RX4 251 RX2 yX2_isNear wxX2_isNear) := gT_V kt_372 kt_373 kt_374 kt_4 wxX2_isNear_in
theorem gcjX4_241 : GoodIn gT (wsV RX4 241 RX1 yX1_isWatchedFor wxX1_isWatchedFor) := gT_V kt_364 kt_365 kt_366 kt_6 wxX1_isWatchedFor_in
theorem gcjX4_244 : GoodIn gT (wsV RX4 244 RX4 yX4_isOnStretch wxX4_isOnStretch) := gT_V kt_368 kt_370 ks_X4_isOnStretch kt_1 wxX4_isOnStretch_in
theorem gcjX4_258 : GoodIn gT (wsS RX4 258 yX4_squareBetween wxX4_squareBetween) := gT_S kt_411 kt_386 kt_1 wxX4_squareBetween_in
theorem gcjX4_262 : GoodIn gT (wsV RX4 262 RX3 yX3_meetsNeed wxX3_meetsNeed) := gT_V kt_407 kt_408 kt_409 kt_2 wxX3_meetsNeed_in
theorem gcjX4_157 : GoodIn gT (wsV RX4 157 RX3 yX3_weigh wxX3_weigh) := gT_V kt_403 kt_404 kt_405 kt_2 wxX3_weigh_in
theorem gcjX4_255 : GoodIn gT (wsV RX4 255 RX4 yX4_isCandidate wxX4_isCandidate) := gT_V kt_395 kt_397 ks_X4_isCandidate kt_1 wxX4_isCandidate_in
theorem gcjX4_167 : GoodIn gT (wsV RX4 167 RX4 yX4_agreement wxX4_agreement) := gT_V kt_399 kt_401 ks_X4_agreement kt_1 wxX4_agreement_in
theorem gcjX4_216 : GoodIn gT (wsV RX4 216 RX4 yX4_latestOfLine wxX4_latestOfLine) := gT_V kt_336 kt_338 ks_X4_latestOfLine kt_1 wxX4_latestOfLine_in
theorem gcjX4_219 : GoodIn gT (wsV RX4 219 RX4 yX4_takeReason wxX4_takeReason) := gT_V kt_356 kt_358 ks_X4_takeReason kt_1 wxX4_takeReason_in
theorem gcjX4_223 : GoodIn gT (wsV RX4 223 RX4 yX4_firstOnStretch wxX4_firstOnStretch) := gT_V kt_360 kt_362 ks_X4_firstOnStretch kt_1 wxX4_firstOnStretch_in
theorem gcjX4_226 : GoodIn gT (wsV RX4 226 RX4 yX4_nearestByPlace wxX4_nearestByPlace) := gT_V kt_391 kt_393 ks_X4_nearestByPlace kt_1 wxX4_nearestByPlace_in
theorem gcjX4_229 : GoodIn gT (wsV RX4 229 RX4 yX4_greatestShare wxX4_greatestShare) := gT_V kt_413 kt_415 ks_X4_greatestShare kt_1 wxX4_greatestShare_in
theorem gcjX4_98 : GoodIn gT (wsV RX4 98 RX1 yX1_begin wxX1_begin) := gT_V kt_417 kt_418 kt_419 kt_6 wxX1_begin_in
theorem gcjX4_83 : GoodIn gT (wsV RX4 83 RX0 yX0_draft wxX0_draft) := gT_V kt_328 kt_329 kt_330 kt_5 wxX0_draft_in
theorem gcjX4_87 : GoodIn gT (wsV RX4 87 RX4 yX4_seekReason wxX4_seekReason) := gT_V kt_332 kt_334 ks_X4_seekReason kt_1 wxX4_seekReason_in
theorem gcjX4_76 : GoodIn gT (wsV RX4 76 RX4 yX4_needCallData wxX4_needCallData) := gT_V kt_320 kt_322 ks_X4_needCallData kt_1 wxX4_needCallData_in
theorem gcjX0_46 : GoodIn gT (wsV RX0 46 RX0 yX0_isUnder wxX0_isUnder) := gT_V kt_466 kt_468 ks_X0_isUnder kt_5 wxX0_isUnder_in
theorem gcjX4_114 : GoodIn gT (wsV RX4 114 RX0 yX0_moveBranch wxX0_moveBranch) := gT_V kt_462 kt_463 kt_464 kt_5 wxX0_moveBranch_in
theorem gcjX4_108 : GoodIn gT (wsS RX4 108 yX4_needState wxX4_needState) := gT_S kt_443 kt_444 kt_1 wxX4_needState_in
theorem gcjX4_127 : GoodIn gT (wsV RX4 127 RX0 yX0_moveAll wxX0_moveAll) := gT_V kt_477 kt_478 kt_479 kt_5 wxX0_moveAll_in
theorem gcjX4_130 : GoodIn gT (wsV RX4 130 RX0 yX0_countIn wxX0_countIn) := gT_V kt_481 kt_482 kt_483 kt_5 wxX0_countIn_in
theorem gcjX4_151 : GoodIn gT (wsV RX4 151 RX4 yX4_needTwoCalls wxX4_needTwoCalls) := gT_V kt_513 kt_515 ks_X4_needTwoCalls kt_1 wxX4_needTwoCalls_in
theorem gcjX0_50 : GoodIn gT (wsV RX0 50 RX0 yX0_isHoax wxX0_isHoax) := gT_V kt_558 kt_345 kt_346 kt_5 wxX0_isHoax_in
theorem gcjX0_54 : GoodIn gT (wsV RX0 54 RX0 yX0_weighCall wxX0_weighCall) := gT_V kt_559 kt_561 ks_X0_weighCall kt_5 wxX0_weighCall_in
theorem gcjX4_171 : GoodIn gT (wsV RX4 171 RX0 yX0_weighEvent wxX0_weighEvent) := gT_V kt_554 kt_555 kt_556 kt_5 wxX0_weighEvent_in
theorem gcjX4_174 : GoodIn gT (wsV RX4 174 RX0 yX0_pointOf wxX0_pointOf) := gT_V kt_563 kt_564 kt_565 kt_5 wxX0_pointOf_in
theorem gcjX4_177 : GoodIn gT (wsV RX4 177 RX0 yX0_latestTimeOf wxX0_latestTimeOf) := gT_V kt_567 kt_568 kt_569 kt_5 wxX0_latestTimeOf_in
theorem gcjX4_180 : GoodIn gT (wsV RX4 180 RX0 yX0_memberOf wxX0_memberOf) := gT_V kt_578 kt_579 kt_580 kt_5 wxX0_memberOf_in
theorem gcjX4_183 : GoodIn gT (wsV RX4 183 RX1 yX1_countOpen wxX1_countOpen) := gT_V kt_589 kt_590 kt_591 kt_6 wxX1_countOpen_in
theorem gcjX4_187 : GoodIn gT (wsV RX4 187 RX0 yX0_countHoaxes wxX0_countHoaxes) := gT_V kt_593 kt_594 kt_595 kt_5 wxX0_countHoaxes_in
theorem gmdX6_74 : GoodIn gT (wsS RX6 74 yX6_in wxX6_in) := gT_S kt_684 kt_685 kt_7 wxX6_in_in
theorem gmdX6_90 : GoodIn gT (wsV RX6 90 RX6 yX6_throwing wxX6_throwing) := gT_V kt_691 kt_693 ks_X6_throwing kt_7 wxX6_throwing_in
theorem gmdX6_86 : GoodIn gT (wsS RX6 86 yX6_isKind wxX6_isKind) := gT_S kt_688 kt_689 kt_7 wxX6_isKind_in
theorem gmdX6_94 : GoodIn gT (wsS RX6 94 yX6_isRoad wxX6_isRoad) := gT_S kt_703 kt_704 kt_7 wxX6_isRoad_in
theorem gmdX6_97 : GoodIn gT (wsS RX6 97 yX6_isPoint wxX6_isPoint) := gT_S kt_706 kt_707 kt_7 wxX6_isPoint_in
theorem gmdX6_100 : GoodIn gT (wsV RX6 100 RX6 yX6_sum wxX6_sum) := gT_V kt_764 kt_766 ks_X6_sum kt_7 wxX6_sum_in
theorem gmdX6_108 : GoodIn gT (wsV RX6 108 RX6 yX6_isEnough wxX6_isEnough) := gT_V kt_768 kt_770 ks_X6_isEnough kt_7 wxX6_isEnough_in
theorem gmdX6_104 : GoodIn gT (wsS RX6 104 yX6_squareOf wxX6_squareOf) := gT_S kt_753 kt_754 kt_7 wxX6_squareOf_in
theorem gmdX6_115 : GoodIn gT (wsS RX6 115 yX6_isBeside wxX6_isBeside) := gT_S kt_749 kt_750 kt_7 wxX6_isBeside_in
theorem gmdX6_118 : GoodIn gT (wsV RX6 118 RX6 yX6_isOpen wxX6_isOpen) := gT_V kt_729 kt_731 ks_X6_isOpen kt_7 wxX6_isOpen_in
theorem gmdX6_121 : GoodIn gT (wsV RX6 121 RX6 yX6_isHoax wxX6_isHoax) := gT_V kt_733 kt_735 ks_X6_isHoax kt_7 wxX6_isHoax_in
theorem gmdX6_128 : GoodIn gT (wsV RX6 128 RX6 yX6_isOn wxX6_isOn) := gT_V kt_745 kt_747 ks_X6_isOn kt_7 wxX6_isOn_in
theorem gmdX6_124 : GoodIn gT (wsV RX6 124 RX6 yX6_firstOf wxX6_firstOf) := gT_V kt_741 kt_743 ks_X6_firstOf kt_7 wxX6_firstOf_in
theorem gmdX6_135 : GoodIn gT (wsV RX6 135 RX6 yX6_isBetter wxX6_isBetter) := gT_V kt_773 kt_775 ks_X6_isBetter kt_7 wxX6_isBetter_in
theorem gmdX6_131 : GoodIn gT (wsV RX6 131 RX6 yX6_meets wxX6_meets) := gT_V kt_760 kt_762 ks_X6_meets kt_7 wxX6_meets_in
theorem gmdX6_142 : GoodIn gT (wsV RX6 142 RX6 yX6_again wxX6_again) := gT_V kt_725 kt_727 ks_X6_again kt_7 wxX6_again_in
theorem gmdX6_146 : GoodIn gT (wsV RX6 146 RX6 yX6_onStretch wxX6_onStretch) := gT_V kt_737 kt_739 ks_X6_onStretch kt_7 wxX6_onStretch_in
theorem gmdX6_149 : GoodIn gT (wsV RX6 149 RX6 yX6_agreeing wxX6_agreeing) := gT_V kt_756 kt_758 ks_X6_agreeing kt_7 wxX6_agreeing_in
theorem gmdX6_163 : GoodIn gT (wsV RX6 163 RX6 yX6_newEvent wxX6_newEvent) := gT_V kt_777 kt_779 ks_X6_newEvent kt_7 wxX6_newEvent_in
theorem gmdX6_159 : GoodIn gT (wsV RX6 159 RX6 yX6_reason wxX6_reason) := gT_V kt_721 kt_723 ks_X6_reason kt_7 wxX6_reason_in
theorem gmdX6_156 : GoodIn gT (wsV RX6 156 RX6 yX6_isRange wxX6_isRange) := gT_V kt_717 kt_719 ks_X6_isRange kt_7 wxX6_isRange_in
theorem gmdX6_152 : GoodIn gT (wsS RX6 152 yX6_isKnown wxX6_isKnown) := gT_S kt_714 kt_715 kt_7 wxX6_isKnown_in
theorem gmdX6_167 : GoodIn gT (wsV RX6 167 RX6 yX6_isCall wxX6_isCall) := gT_V kt_789 kt_791 ks_X6_isCall kt_7 wxX6_isCall_in
theorem gmdX6_173 : GoodIn gT (wsV RX6 173 RX6 yX6_size wxX6_size) := gT_V kt_805 kt_807 ks_X6_size kt_7 wxX6_size_in
theorem gmdX6_170 : GoodIn gT (wsV RX6 170 RX6 yX6_isEvent wxX6_isEvent) := gT_V kt_801 kt_803 ks_X6_isEvent kt_7 wxX6_isEvent_in
theorem gmdX6_176 : GoodIn gT (wsV RX6 176 RX6 yX6_weightOf wxX6_weightOf) := gT_V kt_833 kt_835 ks_X6_weightOf kt_7 wxX6_weightOf_in
theorem gmdX6_179 : GoodIn gT (wsV RX6 179 RX6 yX6_placeOf wxX6_placeOf) := gT_V kt_837 kt_839 ks_X6_placeOf kt_7 wxX6_placeOf_in
theorem gmdX6_182 : GoodIn gT (wsV RX6 182 RX6 yX6_latestOf wxX6_latestOf) := gT_V kt_841 kt_843 ks_X6_latestOf kt_7 wxX6_latestOf_in
