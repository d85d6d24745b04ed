/-! Printed by wip/whole/gen/gen_links.py: methods, their words, links. -/
theorem gd {w : Cond} (i : Nat) (h : lw_tbl[i]? = some w) (hg : goodWord w = true) : w ∈ lw_good := List.mem_filter.mpr ⟨List.mem_of_getElem? h, hg⟩
theorem nd {w : Cond} (i : Nat) (h : lw_tbl[i]? = some w) (hg : isNestW w = true) : w ∈ lw_nest := List.mem_filter.mpr ⟨List.mem_of_getElem? h, hg⟩
def npar (M : MTy) : Nat := ((parseMethodDescriptor M.2.1.desc).map (fun d => d.parameters.length)).getD 0
def OkN (M : MTy) : Prop := OkM M ∧ (parseMethodDescriptor M.2.1.desc).map (fun d => d.parameters.length) = some (npar M)
def OkI (M : MTy) : Prop := Cond.instanceMethod M.2.1 ∈ lw_good ∧ Cond.selects M.2.1.cls M.2.1 M.2.1 ∈ lw_good ∧ OkN M
def OkS (M : MTy) : Prop := Cond.static M.2.1 ∈ lw_good ∧ OkN M
def OkC (M : MTy) : Prop := Cond.instanceMethod M.2.1 ∈ lw_good ∧ M.2.1.name = "<init>" ∧ OkN M
def Lnk (oc idx : Nat) (M : MTy) : Prop := Cond.methodLink (Rcls oc) idx M.2.1 ∈ lw_good ∨ ∃ host : String, Cond.methodLinkNest (Rcls oc) idx M.2.1 host ∈ lw_nest
def mX0_init : MTy := (0, yX0_init, cX0_init, 1, none)
set_option maxRecDepth 20000 in
theorem okX0_init : OkC mX0_init := ⟨gd 110 rfl rfl, rfl, ⟨⟨gd 111 rfl rfl, gd 70 rfl rfl, rfl, by decide, by decide +kernel⟩, by decide +kernel⟩⟩
def mX0_tell : MTy := (0, yX0_tell, cX0_tell, 3, none)
set_option maxRecDepth 20000 in
theorem okX0_tell : OkI mX0_tell := ⟨gd 403 rfl rfl, gd 404 rfl rfl, ⟨⟨gd 405 rfl rfl, gd 70 rfl rfl, rfl, by decide, by decide +kernel⟩, by decide +kernel⟩⟩
def mX0_goHome : MTy := (0, yX0_goHome, cX0_goHome, 3, (some .int))
set_option maxRecDepth 20000 in
theorem okX0_goHome : OkI mX0_goHome := ⟨gd 523 rfl rfl, gd 524 rfl rfl, ⟨⟨gd 525 rfl rfl, gd 70 rfl rfl, rfl, by decide, by decide +kernel⟩, by decide +kernel⟩⟩
def mX0_canTrade : MTy := (0, yX0_canTrade, cX0_canTrade, 3, (some .boolean))
set_option maxRecDepth 20000 in
theorem okX0_canTrade : OkI mX0_canTrade := ⟨gd 553 rfl rfl, gd 554 rfl rfl, ⟨⟨gd 555 rfl rfl, gd 70 rfl rfl, rfl, by decide, by decide +kernel⟩, by decide +kernel⟩⟩
def mX0_gain : MTy := (0, yX0_gain, cX0_gain, 3, (some .int))
set_option maxRecDepth 20000 in
theorem okX0_gain : OkI mX0_gain := ⟨gd 561 rfl rfl, gd 562 rfl rfl, ⟨⟨gd 563 rfl rfl, gd 70 rfl rfl, rfl, by decide, by decide +kernel⟩, by decide +kernel⟩⟩
def mX0_sellsTo : MTy := (0, yX0_sellsTo, cX0_sellsTo, 3, (some .boolean))
set_option maxRecDepth 20000 in
theorem okX0_sellsTo : OkI mX0_sellsTo := ⟨gd 558 rfl rfl, gd 9 rfl rfl, ⟨⟨gd 559 rfl rfl, gd 70 rfl rfl, rfl, by decide, by decide +kernel⟩, by decide +kernel⟩⟩
def mX0_place : MTy := (0, yX0_place, cX0_place, 5, none)
set_option maxRecDepth 20000 in
theorem okX0_place : OkI mX0_place := ⟨gd 431 rfl rfl, gd 2 rfl rfl, ⟨⟨gd 432 rfl rfl, gd 70 rfl rfl, rfl, by decide, by decide +kernel⟩, by decide +kernel⟩⟩
def mX0_number : MTy := (0, yX0_number, cX0_number, 2, (some .int))
set_option maxRecDepth 20000 in
theorem okX0_number : OkS mX0_number := ⟨gd 424 rfl rfl, ⟨⟨gd 425 rfl rfl, gd 70 rfl rfl, rfl, by decide, by decide +kernel⟩, by decide +kernel⟩⟩
def mX0_faultOf : MTy := (0, yX0_faultOf, cX0_faultOf, 4, (some .int))
set_option maxRecDepth 20000 in
theorem okX0_faultOf : OkS mX0_faultOf := ⟨gd 407 rfl rfl, ⟨⟨gd 408 rfl rfl, gd 70 rfl rfl, rfl, by decide, by decide +kernel⟩, by decide +kernel⟩⟩
def mX0_faultAt : MTy := (0, yX0_faultAt, cX0_faultAt, 3, (some .int))
set_option maxRecDepth 20000 in
theorem okX0_faultAt : OkS mX0_faultAt := ⟨gd 414 rfl rfl, ⟨⟨gd 415 rfl rfl, gd 70 rfl rfl, rfl, by decide, by decide +kernel⟩, by decide +kernel⟩⟩
def mX1_init : MTy := (1, yX1_init, cX1_init, 1, none)
set_option maxRecDepth 20000 in
theorem okX1_init : OkC mX1_init := ⟨gd 174 rfl rfl, rfl, ⟨⟨gd 175 rfl rfl, gd 72 rfl rfl, rfl, by decide, by decide +kernel⟩, by decide +kernel⟩⟩
def mX1_tell : MTy := (1, yX1_tell, cX1_tell, 3, none)
set_option maxRecDepth 20000 in
theorem okX1_tell : OkI mX1_tell := ⟨gd 434 rfl rfl, gd 435 rfl rfl, ⟨⟨gd 436 rfl rfl, gd 72 rfl rfl, rfl, by decide, by decide +kernel⟩, by decide +kernel⟩⟩
def mX1_faultOf : MTy := (1, yX1_faultOf, cX1_faultOf, 10, (some .int))
set_option maxRecDepth 20000 in
theorem okX1_faultOf : OkI mX1_faultOf := ⟨gd 440 rfl rfl, gd 3 rfl rfl, ⟨⟨gd 441 rfl rfl, gd 72 rfl rfl, rfl, by decide, by decide +kernel⟩, by decide +kernel⟩⟩
def mX2_init : MTy := (2, yX2_init, cX2_init, 2, none)
set_option maxRecDepth 20000 in
theorem okX2_init : OkC mX2_init := ⟨gd 156 rfl rfl, rfl, ⟨⟨gd 157 rfl rfl, gd 71 rfl rfl, rfl, by decide, by decide +kernel⟩, by decide +kernel⟩⟩
def mX2_square : MTy := (2, yX2_square, cX2_square, 2, (some .int))
set_option maxRecDepth 20000 in
theorem okX2_square : OkI mX2_square := ⟨gd 501 rfl rfl, gd 502 rfl rfl, ⟨⟨gd 503 rfl rfl, gd 71 rfl rfl, rfl, by decide, by decide +kernel⟩, by decide +kernel⟩⟩
def mX2_lawfulStep : MTy := (2, yX2_lawfulStep, cX2_lawfulStep, 5, (some .int))
set_option maxRecDepth 20000 in
theorem okX2_lawfulStep : OkI mX2_lawfulStep := ⟨gd 486 rfl rfl, gd 487 rfl rfl, ⟨⟨gd 488 rfl rfl, gd 71 rfl rfl, rfl, by decide, by decide +kernel⟩, by decide +kernel⟩⟩
def mX2_mayStand : MTy := (2, yX2_mayStand, cX2_mayStand, 6, (some .boolean))
set_option maxRecDepth 20000 in
theorem okX2_mayStand : OkI mX2_mayStand := ⟨gd 497 rfl rfl, gd 498 rfl rfl, ⟨⟨gd 499 rfl rfl, gd 71 rfl rfl, rfl, by decide, by decide +kernel⟩, by decide +kernel⟩⟩
def mX2_firstNearer : MTy := (2, yX2_firstNearer, cX2_firstNearer, 8, (some .int))
set_option maxRecDepth 20000 in
theorem okX2_firstNearer : OkI mX2_firstNearer := ⟨gd 540 rfl rfl, gd 541 rfl rfl, ⟨⟨gd 542 rfl rfl, gd 71 rfl rfl, rfl, by decide, by decide +kernel⟩, by decide +kernel⟩⟩
def mX2_verdict : MTy := (2, yX2_verdict, cX2_verdict, 5, (some .int))
set_option maxRecDepth 20000 in
theorem okX2_verdict : OkI mX2_verdict := ⟨gd 544 rfl rfl, gd 545 rfl rfl, ⟨⟨gd 546 rfl rfl, gd 71 rfl rfl, rfl, by decide, by decide +kernel⟩, by decide +kernel⟩⟩
def mX2_bindingPairs : MTy := (2, yX2_bindingPairs, cX2_bindingPairs, 5, (some .int))
set_option maxRecDepth 20000 in
theorem okX2_bindingPairs : OkI mX2_bindingPairs := ⟨gd 569 rfl rfl, gd 570 rfl rfl, ⟨⟨gd 571 rfl rfl, gd 71 rfl rfl, rfl, by decide, by decide +kernel⟩, by decide +kernel⟩⟩
def mX2_bestDue : MTy := (2, yX2_bestDue, cX2_bestDue, 7, (some .int))
set_option maxRecDepth 20000 in
theorem okX2_bestDue : OkI mX2_bestDue := ⟨gd 779 rfl rfl, gd 780 rfl rfl, ⟨⟨gd 781 rfl rfl, gd 71 rfl rfl, rfl, by decide, by decide +kernel⟩, by decide +kernel⟩⟩
def mX2_hindered : MTy := (2, yX2_hindered, cX2_hindered, 6, (some .int))
set_option maxRecDepth 20000 in
theorem okX2_hindered : OkI mX2_hindered := ⟨gd 673 rfl rfl, gd 674 rfl rfl, ⟨⟨gd 675 rfl rfl, gd 71 rfl rfl, rfl, by decide, by decide +kernel⟩, by decide +kernel⟩⟩
def mX2_isHinderedBy : MTy := (2, yX2_isHinderedBy, cX2_isHinderedBy, 4, (some .boolean))
set_option maxRecDepth 20000 in
theorem okX2_isHinderedBy : OkI mX2_isHinderedBy := ⟨gd 678 rfl rfl, gd 19 rfl rfl, ⟨⟨gd 679 rfl rfl, gd 71 rfl rfl, rfl, by decide, by decide +kernel⟩, by decide +kernel⟩⟩
def mX2_verdictBy : MTy := (2, yX2_verdictBy, cX2_verdictBy, 6, (some .int))
set_option maxRecDepth 20000 in
theorem okX2_verdictBy : OkI mX2_verdictBy := ⟨gd 549 rfl rfl, gd 8 rfl rfl, ⟨⟨gd 550 rfl rfl, gd 71 rfl rfl, rfl, by decide, by decide +kernel⟩, by decide +kernel⟩⟩
def mX3_init : MTy := (3, yX3_init, cX3_init, 2, none)
set_option maxRecDepth 20000 in
theorem okX3_init : OkC mX3_init := ⟨gd 229 rfl rfl, rfl, ⟨⟨gd 230 rfl rfl, gd 74 rfl rfl, rfl, by decide, by decide +kernel⟩, by decide +kernel⟩⟩
def mX3_solve : MTy := (3, yX3_solve, cX3_solve, 4, none)
set_option maxRecDepth 20000 in
theorem okX3_solve : OkI mX3_solve := ⟨gd 577 rfl rfl, gd 578 rfl rfl, ⟨⟨gd 579 rfl rfl, gd 74 rfl rfl, rfl, by decide, by decide +kernel⟩, by decide +kernel⟩⟩
def mX3_choose : MTy := (3, yX3_choose, cX3_choose, 7, none)
set_option maxRecDepth 20000 in
theorem okX3_choose : OkI mX3_choose := ⟨gd 583 rfl rfl, gd 10 rfl rfl, ⟨⟨gd 584 rfl rfl, gd 74 rfl rfl, rfl, by decide, by decide +kernel⟩, by decide +kernel⟩⟩
def mX3_keepIfBetter : MTy := (3, yX3_keepIfBetter, cX3_keepIfBetter, 3, none)
set_option maxRecDepth 20000 in
theorem okX3_keepIfBetter : OkI mX3_keepIfBetter := ⟨gd 587 rfl rfl, gd 11 rfl rfl, ⟨⟨gd 588 rfl rfl, gd 74 rfl rfl, rfl, by decide, by decide +kernel⟩, by decide +kernel⟩⟩
def mX4_init : MTy := (4, yX4_init, cX4_init, 1, none)
set_option maxRecDepth 20000 in
theorem okX4_init : OkC mX4_init := ⟨gd 279 rfl rfl, rfl, ⟨⟨gd 280 rfl rfl, gd 76 rfl rfl, rfl, by decide, by decide +kernel⟩, by decide +kernel⟩⟩
def mX4_isFull : MTy := (4, yX4_isFull, cX4_isFull, 1, (some .boolean))
set_option maxRecDepth 20000 in
theorem okX4_isFull : OkI mX4_isFull := ⟨gd 690 rfl rfl, gd 691 rfl rfl, ⟨⟨gd 692 rfl rfl, gd 76 rfl rfl, rfl, by decide, by decide +kernel⟩, by decide +kernel⟩⟩
def mX4_has : MTy := (4, yX4_has, cX4_has, 2, (some .boolean))
set_option maxRecDepth 20000 in
theorem okX4_has : OkI mX4_has := ⟨gd 734 rfl rfl, gd 735 rfl rfl, ⟨⟨gd 736 rfl rfl, gd 76 rfl rfl, rfl, by decide, by decide +kernel⟩, by decide +kernel⟩⟩
def mX4_add : MTy := (4, yX4_add, cX4_add, 2, (some .int))
set_option maxRecDepth 20000 in
theorem okX4_add : OkI mX4_add := ⟨gd 694 rfl rfl, gd 695 rfl rfl, ⟨⟨gd 696 rfl rfl, gd 76 rfl rfl, rfl, by decide, by decide +kernel⟩, by decide +kernel⟩⟩
def mX4_clear : MTy := (4, yX4_clear, cX4_clear, 2, (some .int))
set_option maxRecDepth 20000 in
theorem okX4_clear : OkI mX4_clear := ⟨gd 703 rfl rfl, gd 704 rfl rfl, ⟨⟨gd 705 rfl rfl, gd 76 rfl rfl, rfl, by decide, by decide +kernel⟩, by decide +kernel⟩⟩
def mX4_pairsAt : MTy := (4, yX4_pairsAt, cX4_pairsAt, 5, (some .int))
set_option maxRecDepth 20000 in
theorem okX4_pairsAt : OkI mX4_pairsAt := ⟨gd 712 rfl rfl, gd 713 rfl rfl, ⟨⟨gd 714 rfl rfl, gd 76 rfl rfl, rfl, by decide, by decide +kernel⟩, by decide +kernel⟩⟩
def mX4_seenFrom : MTy := (4, yX4_seenFrom, cX4_seenFrom, 5, (some .int))
set_option maxRecDepth 20000 in
theorem okX4_seenFrom : OkI mX4_seenFrom := ⟨gd 725 rfl rfl, gd 726 rfl rfl, ⟨⟨gd 727 rfl rfl, gd 76 rfl rfl, rfl, by decide, by decide +kernel⟩, by decide +kernel⟩⟩
def mX4_bestSpot : MTy := (4, yX4_bestSpot, cX4_bestSpot, 6, (some .int))
set_option maxRecDepth 20000 in
theorem okX4_bestSpot : OkI mX4_bestSpot := ⟨gd 721 rfl rfl, gd 722 rfl rfl, ⟨⟨gd 723 rfl rfl, gd 76 rfl rfl, rfl, by decide, by decide +kernel⟩, by decide +kernel⟩⟩
def mX4_commonSpots : MTy := (4, yX4_commonSpots, cX4_commonSpots, 6, (some .int))
set_option maxRecDepth 20000 in
theorem okX4_commonSpots : OkI mX4_commonSpots := ⟨gd 738 rfl rfl, gd 739 rfl rfl, ⟨⟨gd 740 rfl rfl, gd 76 rfl rfl, rfl, by decide, by decide +kernel⟩, by decide +kernel⟩⟩
def mX4_commonSpot : MTy := (4, yX4_commonSpot, cX4_commonSpot, 7, (some .int))
set_option maxRecDepth 20000 in
theorem okX4_commonSpot : OkI mX4_commonSpot := ⟨gd 746 rfl rfl, gd 747 rfl rfl, ⟨⟨gd 748 rfl rfl, gd 76 rfl rfl, rfl, by decide, by decide +kernel⟩, by decide +kernel⟩⟩
def mX4_isCommon : MTy := (4, yX4_isCommon, cX4_isCommon, 5, (some .boolean))
set_option maxRecDepth 20000 in
theorem okX4_isCommon : OkI mX4_isCommon := ⟨gd 743 rfl rfl, gd 20 rfl rfl, ⟨⟨gd 744 rfl rfl, gd 76 rfl rfl, rfl, by decide, by decide +kernel⟩, by decide +kernel⟩⟩
def mX5_init : MTy := (5, yX5_init, cX5_init, 1, none)
set_option maxRecDepth 20000 in
theorem okX5_init : OkC mX5_init := ⟨gd 321 rfl rfl, rfl, ⟨⟨gd 322 rfl rfl, gd 78 rfl rfl, rfl, by decide, by decide +kernel⟩, by decide +kernel⟩⟩
def mX5_renew : MTy := (5, yX5_renew, cX5_renew, 3, none)
set_option maxRecDepth 20000 in
theorem okX5_renew : OkI mX5_renew := ⟨gd 791 rfl rfl, gd 792 rfl rfl, ⟨⟨gd 793 rfl rfl, gd 78 rfl rfl, rfl, by decide, by decide +kernel⟩, by decide +kernel⟩⟩
def mX5_findingAt : MTy := (5, yX5_findingAt, cX5_findingAt, 3, (some .int))
set_option maxRecDepth 20000 in
theorem okX5_findingAt : OkI mX5_findingAt := ⟨gd 804 rfl rfl, gd 805 rfl rfl, ⟨⟨gd 806 rfl rfl, gd 78 rfl rfl, rfl, by decide, by decide +kernel⟩, by decide +kernel⟩⟩
def mX5_hasRange : MTy := (5, yX5_hasRange, cX5_hasRange, 3, (some .boolean))
set_option maxRecDepth 20000 in
theorem okX5_hasRange : OkI mX5_hasRange := ⟨gd 821 rfl rfl, gd 822 rfl rfl, ⟨⟨gd 823 rfl rfl, gd 78 rfl rfl, rfl, by decide, by decide +kernel⟩, by decide +kernel⟩⟩
def mX5_store : MTy := (5, yX5_store, cX5_store, 3, none)
set_option maxRecDepth 20000 in
theorem okX5_store : OkI mX5_store := ⟨gd 808 rfl rfl, gd 809 rfl rfl, ⟨⟨gd 810 rfl rfl, gd 78 rfl rfl, rfl, by decide, by decide +kernel⟩, by decide +kernel⟩⟩
def mX6_init : MTy := (6, yX6_init, cX6_init, 2, none)
set_option maxRecDepth 20000 in
theorem okX6_init : OkC mX6_init := ⟨gd 293 rfl rfl, rfl, ⟨⟨gd 294 rfl rfl, gd 77 rfl rfl, rfl, by decide, by decide +kernel⟩, by decide +kernel⟩⟩
def mX6_seek : MTy := (6, yX6_seek, cX6_seek, 3, none)
set_option maxRecDepth 20000 in
theorem okX6_seek : OkI mX6_seek := ⟨gd 754 rfl rfl, gd 755 rfl rfl, ⟨⟨gd 756 rfl rfl, gd 77 rfl rfl, rfl, by decide, by decide +kernel⟩, by decide +kernel⟩⟩
def mX6_profitOn : MTy := (6, yX6_profitOn, cX6_profitOn, 7, (some .int))
set_option maxRecDepth 20000 in
theorem okX6_profitOn : OkI mX6_profitOn := ⟨gd 760 rfl rfl, gd 21 rfl rfl, ⟨⟨gd 761 rfl rfl, gd 77 rfl rfl, rfl, by decide, by decide +kernel⟩, by decide +kernel⟩⟩
def mX6_ask : MTy := (6, yX6_ask, cX6_ask, 4, none)
set_option maxRecDepth 20000 in
theorem okX6_ask : OkI mX6_ask := ⟨gd 767 rfl rfl, gd 22 rfl rfl, ⟨⟨gd 768 rfl rfl, gd 77 rfl rfl, rfl, by decide, by decide +kernel⟩, by decide +kernel⟩⟩
def mX6_margins : MTy := (6, yX6_margins, cX6_margins, 3, (some .int))
set_option maxRecDepth 20000 in
theorem okX6_margins : OkI mX6_margins := ⟨gd 772 rfl rfl, gd 23 rfl rfl, ⟨⟨gd 773 rfl rfl, gd 77 rfl rfl, rfl, by decide, by decide +kernel⟩, by decide +kernel⟩⟩
def mX7_init : MTy := (7, yX7_init, cX7_init, 2, none)
set_option maxRecDepth 20000 in
theorem okX7_init : OkC mX7_init := ⟨gd 93 rfl rfl, rfl, ⟨⟨gd 94 rfl rfl, gd 68 rfl rfl, rfl, by decide, by decide +kernel⟩, by decide +kernel⟩⟩
def mX7_length : MTy := (7, yX7_length, cX7_length, 1, (some .int))
set_option maxRecDepth 20000 in
theorem okX7_length : OkI mX7_length := ⟨gd 410 rfl rfl, gd 411 rfl rfl, ⟨⟨gd 412 rfl rfl, gd 68 rfl rfl, rfl, by decide, by decide +kernel⟩, by decide +kernel⟩⟩
def mX7_isFull : MTy := (7, yX7_isFull, cX7_isFull, 1, (some .boolean))
set_option maxRecDepth 20000 in
theorem okX7_isFull : OkI mX7_isFull := ⟨gd 390 rfl rfl, gd 391 rfl rfl, ⟨⟨gd 392 rfl rfl, gd 68 rfl rfl, rfl, by decide, by decide +kernel⟩, by decide +kernel⟩⟩
def mX7_add : MTy := (7, yX7_add, cX7_add, 2, none)
set_option maxRecDepth 20000 in
theorem okX7_add : OkI mX7_add := ⟨gd 394 rfl rfl, gd 395 rfl rfl, ⟨⟨gd 396 rfl rfl, gd 68 rfl rfl, rfl, by decide, by decide +kernel⟩, by decide +kernel⟩⟩
def mX7_clear : MTy := (7, yX7_clear, cX7_clear, 2, (some .int))
set_option maxRecDepth 20000 in
theorem okX7_clear : OkI mX7_clear := ⟨gd 453 rfl rfl, gd 454 rfl rfl, ⟨⟨gd 455 rfl rfl, gd 68 rfl rfl, rfl, by decide, by decide +kernel⟩, by decide +kernel⟩⟩
def mX7_at : MTy := (7, yX7_at, cX7_at, 2, (some .int))
set_option maxRecDepth 20000 in
theorem okX7_at : OkI mX7_at := ⟨gd 417 rfl rfl, gd 418 rfl rfl, ⟨⟨gd 419 rfl rfl, gd 68 rfl rfl, rfl, by decide, by decide +kernel⟩, by decide +kernel⟩⟩
def mX8_init : MTy := (8, yX8_init, cX8_init, 2, none)
set_option maxRecDepth 20000 in
theorem okX8_init : OkC mX8_init := ⟨gd 203 rfl rfl, rfl, ⟨⟨gd 204 rfl rfl, gd 73 rfl rfl, rfl, by decide, by decide +kernel⟩, by decide +kernel⟩⟩
def mX8_judge : MTy := (8, yX8_judge, cX8_judge, 4, none)
set_option maxRecDepth 20000 in
theorem okX8_judge : OkI mX8_judge := ⟨gd 602 rfl rfl, gd 603 rfl rfl, ⟨⟨gd 604 rfl rfl, gd 73 rfl rfl, rfl, by decide, by decide +kernel⟩, by decide +kernel⟩⟩
def mX8_result : MTy := (8, yX8_result, cX8_result, 2, (some .int))
set_option maxRecDepth 20000 in
theorem okX8_result : OkI mX8_result := ⟨gd 617 rfl rfl, gd 618 rfl rfl, ⟨⟨gd 619 rfl rfl, gd 73 rfl rfl, rfl, by decide, by decide +kernel⟩, by decide +kernel⟩⟩
def mX8_moves : MTy := (8, yX8_moves, cX8_moves, 4, (some .boolean))
set_option maxRecDepth 20000 in
theorem okX8_moves : OkI mX8_moves := ⟨gd 613 rfl rfl, gd 13 rfl rfl, ⟨⟨gd 614 rfl rfl, gd 73 rfl rfl, rfl, by decide, by decide +kernel⟩, by decide +kernel⟩⟩
def mX8_strikes : MTy := (8, yX8_strikes, cX8_strikes, 3, (some .boolean))
set_option maxRecDepth 20000 in
theorem okX8_strikes : OkI mX8_strikes := ⟨gd 607 rfl rfl, gd 12 rfl rfl, ⟨⟨gd 608 rfl rfl, gd 73 rfl rfl, rfl, by decide, by decide +kernel⟩, by decide +kernel⟩⟩
def mX9_init : MTy := (9, yX9_init, cX9_init, 2, none)
set_option maxRecDepth 20000 in
theorem okX9_init : OkC mX9_init := ⟨gd 257 rfl rfl, rfl, ⟨⟨gd 258 rfl rfl, gd 75 rfl rfl, rfl, by decide, by decide +kernel⟩, by decide +kernel⟩⟩
def mX9_search : MTy := (9, yX9_search, cX9_search, 5, (some .int))
set_option maxRecDepth 20000 in
theorem okX9_search : OkI mX9_search := ⟨gd 629 rfl rfl, gd 630 rfl rfl, ⟨⟨gd 631 rfl rfl, gd 75 rfl rfl, rfl, by decide, by decide +kernel⟩, by decide +kernel⟩⟩
def mX9_direction : MTy := (9, yX9_direction, cX9_direction, 6, (some .int))
set_option maxRecDepth 20000 in
theorem okX9_direction : OkI mX9_direction := ⟨gd 661 rfl rfl, gd 662 rfl rfl, ⟨⟨gd 663 rfl rfl, gd 75 rfl rfl, rfl, by decide, by decide +kernel⟩, by decide +kernel⟩⟩
def mX9_leastDirection : MTy := (9, yX9_leastDirection, cX9_leastDirection, 4, (some .int))
set_option maxRecDepth 20000 in
theorem okX9_leastDirection : OkI mX9_leastDirection := ⟨gd 666 rfl rfl, gd 18 rfl rfl, ⟨⟨gd 667 rfl rfl, gd 75 rfl rfl, rfl, by decide, by decide +kernel⟩, by decide +kernel⟩⟩
def mX9_queueGoals : MTy := (9, yX9_queueGoals, cX9_queueGoals, 5, none)
set_option maxRecDepth 20000 in
theorem okX9_queueGoals : OkI mX9_queueGoals := ⟨gd 639 rfl rfl, gd 14 rfl rfl, ⟨⟨gd 640 rfl rfl, gd 75 rfl rfl, rfl, by decide, by decide +kernel⟩, by decide +kernel⟩⟩
def mX9_queueNeighbours : MTy := (9, yX9_queueNeighbours, cX9_queueNeighbours, 6, none)
set_option maxRecDepth 20000 in
theorem okX9_queueNeighbours : OkI mX9_queueNeighbours := ⟨gd 653 rfl rfl, gd 17 rfl rfl, ⟨⟨gd 654 rfl rfl, gd 75 rfl rfl, rfl, by decide, by decide +kernel⟩, by decide +kernel⟩⟩
def mX9_isOpen : MTy := (9, yX9_isOpen, cX9_isOpen, 4, (some .boolean))
set_option maxRecDepth 20000 in
theorem okX9_isOpen : OkI mX9_isOpen := ⟨gd 644 rfl rfl, gd 15 rfl rfl, ⟨⟨gd 645 rfl rfl, gd 75 rfl rfl, rfl, by decide, by decide +kernel⟩, by decide +kernel⟩⟩
def mX9_enqueue : MTy := (9, yX9_enqueue, cX9_enqueue, 3, none)
set_option maxRecDepth 20000 in
theorem okX9_enqueue : OkI mX9_enqueue := ⟨gd 649 rfl rfl, gd 16 rfl rfl, ⟨⟨gd 650 rfl rfl, gd 75 rfl rfl, rfl, by decide, by decide +kernel⟩, by decide +kernel⟩⟩
def mX10_init : MTy := (10, yX10_init, cX10_init, 2, none)
set_option maxRecDepth 20000 in
theorem okX10_init : OkC mX10_init := ⟨gd 85 rfl rfl, rfl, ⟨⟨gd 86 rfl rfl, gd 67 rfl rfl, rfl, by decide, by decide +kernel⟩, by decide +kernel⟩⟩
def mX10_type : MTy := (10, yX10_type, cX10_type, 4, (some .int))
set_option maxRecDepth 20000 in
theorem okX10_type : OkI mX10_type := ⟨gd 379 rfl rfl, gd 380 rfl rfl, ⟨⟨gd 381 rfl rfl, gd 67 rfl rfl, rfl, by decide, by decide +kernel⟩, by decide +kernel⟩⟩
def mX10_wipe : MTy := (10, yX10_wipe, cX10_wipe, 3, (some .int))
set_option maxRecDepth 20000 in
theorem okX10_wipe : OkI mX10_wipe := ⟨gd 449 rfl rfl, gd 450 rfl rfl, ⟨⟨gd 451 rfl rfl, gd 67 rfl rfl, rfl, by decide, by decide +kernel⟩, by decide +kernel⟩⟩
def mX10_fault : MTy := (10, yX10_fault, cX10_fault, 2, (some .int))
set_option maxRecDepth 20000 in
theorem okX10_fault : OkI mX10_fault := ⟨gd 457 rfl rfl, gd 458 rfl rfl, ⟨⟨gd 459 rfl rfl, gd 67 rfl rfl, rfl, by decide, by decide +kernel⟩, by decide +kernel⟩⟩
def mX10_set : MTy := (10, yX10_set, cX10_set, 4, (some .int))
set_option maxRecDepth 20000 in
theorem okX10_set : OkI mX10_set := ⟨gd 461 rfl rfl, gd 462 rfl rfl, ⟨⟨gd 463 rfl rfl, gd 67 rfl rfl, rfl, by decide, by decide +kernel⟩, by decide +kernel⟩⟩
def mX10_person : MTy := (10, yX10_person, cX10_person, 3, (some .int))
set_option maxRecDepth 20000 in
theorem okX10_person : OkI mX10_person := ⟨gd 469 rfl rfl, gd 470 rfl rfl, ⟨⟨gd 471 rfl rfl, gd 67 rfl rfl, rfl, by decide, by decide +kernel⟩, by decide +kernel⟩⟩
def mX10_step : MTy := (10, yX10_step, cX10_step, 3, (some .int))
set_option maxRecDepth 20000 in
theorem okX10_step : OkI mX10_step := ⟨gd 477 rfl rfl, gd 478 rfl rfl, ⟨⟨gd 479 rfl rfl, gd 67 rfl rfl, rfl, by decide, by decide +kernel⟩, by decide +kernel⟩⟩
def mX10_read : MTy := (10, yX10_read, cX10_read, 5, (some .int))
set_option maxRecDepth 20000 in
theorem okX10_read : OkI mX10_read := ⟨gd 508 rfl rfl, gd 509 rfl rfl, ⟨⟨gd 510 rfl rfl, gd 67 rfl rfl, rfl, by decide, by decide +kernel⟩, by decide +kernel⟩⟩
def mX10_home : MTy := (10, yX10_home, cX10_home, 1, (some .int))
set_option maxRecDepth 20000 in
theorem okX10_home : OkI mX10_home := ⟨gd 519 rfl rfl, gd 520 rfl rfl, ⟨⟨gd 521 rfl rfl, gd 67 rfl rfl, rfl, by decide, by decide +kernel⟩, by decide +kernel⟩⟩
def mX10_away : MTy := (10, yX10_away, cX10_away, 3, (some .int))
set_option maxRecDepth 20000 in
theorem okX10_away : OkI mX10_away := ⟨gd 527 rfl rfl, gd 528 rfl rfl, ⟨⟨gd 529 rfl rfl, gd 67 rfl rfl, rfl, by decide, by decide +kernel⟩, by decide +kernel⟩⟩
def mX10_binds : MTy := (10, yX10_binds, cX10_binds, 5, (some .int))
set_option maxRecDepth 20000 in
theorem okX10_binds : OkI mX10_binds := ⟨gd 532 rfl rfl, gd 533 rfl rfl, ⟨⟨gd 534 rfl rfl, gd 67 rfl rfl, rfl, by decide, by decide +kernel⟩, by decide +kernel⟩⟩
def mX10_pairs : MTy := (10, yX10_pairs, cX10_pairs, 1, (some .int))
set_option maxRecDepth 20000 in
theorem okX10_pairs : OkI mX10_pairs := ⟨gd 565 rfl rfl, gd 566 rfl rfl, ⟨⟨gd 567 rfl rfl, gd 67 rfl rfl, rfl, by decide, by decide +kernel⟩, by decide +kernel⟩⟩
def mX10_once : MTy := (10, yX10_once, cX10_once, 2, (some .int))
set_option maxRecDepth 20000 in
theorem okX10_once : OkI mX10_once := ⟨gd 573 rfl rfl, gd 574 rfl rfl, ⟨⟨gd 575 rfl rfl, gd 67 rfl rfl, rfl, by decide, by decide +kernel⟩, by decide +kernel⟩⟩
def mX10_worth : MTy := (10, yX10_worth, cX10_worth, 1, (some .int))
set_option maxRecDepth 20000 in
theorem okX10_worth : OkI mX10_worth := ⟨gd 594 rfl rfl, gd 595 rfl rfl, ⟨⟨gd 596 rfl rfl, gd 67 rfl rfl, rfl, by decide, by decide +kernel⟩, by decide +kernel⟩⟩
def mX10_judged : MTy := (10, yX10_judged, cX10_judged, 2, (some .int))
set_option maxRecDepth 20000 in
theorem okX10_judged : OkI mX10_judged := ⟨gd 598 rfl rfl, gd 599 rfl rfl, ⟨⟨gd 600 rfl rfl, gd 67 rfl rfl, rfl, by decide, by decide +kernel⟩, by decide +kernel⟩⟩
def mX10_ends : MTy := (10, yX10_ends, cX10_ends, 2, (some .int))
set_option maxRecDepth 20000 in
theorem okX10_ends : OkI mX10_ends := ⟨gd 621 rfl rfl, gd 622 rfl rfl, ⟨⟨gd 623 rfl rfl, gd 67 rfl rfl, rfl, by decide, by decide +kernel⟩, by decide +kernel⟩⟩
def mX10_comes : MTy := (10, yX10_comes, cX10_comes, 3, (some .int))
set_option maxRecDepth 20000 in
theorem okX10_comes : OkI mX10_comes := ⟨gd 625 rfl rfl, gd 626 rfl rfl, ⟨⟨gd 627 rfl rfl, gd 67 rfl rfl, rfl, by decide, by decide +kernel⟩, by decide +kernel⟩⟩
def mX10_way : MTy := (10, yX10_way, cX10_way, 5, (some .int))
set_option maxRecDepth 20000 in
theorem okX10_way : OkI mX10_way := ⟨gd 657 rfl rfl, gd 658 rfl rfl, ⟨⟨gd 659 rfl rfl, gd 67 rfl rfl, rfl, by decide, by decide +kernel⟩, by decide +kernel⟩⟩
def mX10_hinders : MTy := (10, yX10_hinders, cX10_hinders, 3, (some .int))
set_option maxRecDepth 20000 in
theorem okX10_hinders : OkI mX10_hinders := ⟨gd 669 rfl rfl, gd 670 rfl rfl, ⟨⟨gd 671 rfl rfl, gd 67 rfl rfl, rfl, by decide, by decide +kernel⟩, by decide +kernel⟩⟩
def mX10_post : MTy := (10, yX10_post, cX10_post, 2, (some .int))
set_option maxRecDepth 20000 in
theorem okX10_post : OkI mX10_post := ⟨gd 683 rfl rfl, gd 684 rfl rfl, ⟨⟨gd 685 rfl rfl, gd 67 rfl rfl, rfl, by decide, by decide +kernel⟩, by decide +kernel⟩⟩
def mX10_gone : MTy := (10, yX10_gone, cX10_gone, 1, (some .int))
set_option maxRecDepth 20000 in
theorem okX10_gone : OkI mX10_gone := ⟨gd 699 rfl rfl, gd 700 rfl rfl, ⟨⟨gd 701 rfl rfl, gd 67 rfl rfl, rfl, by decide, by decide +kernel⟩, by decide +kernel⟩⟩
def mX10_sees : MTy := (10, yX10_sees, cX10_sees, 1, (some .int))
set_option maxRecDepth 20000 in
theorem okX10_sees : OkI mX10_sees := ⟨gd 707 rfl rfl, gd 708 rfl rfl, ⟨⟨gd 709 rfl rfl, gd 67 rfl rfl, rfl, by decide, by decide +kernel⟩, by decide +kernel⟩⟩
def mX10_more : MTy := (10, yX10_more, cX10_more, 3, (some .int))
set_option maxRecDepth 20000 in
theorem okX10_more : OkI mX10_more := ⟨gd 717 rfl rfl, gd 718 rfl rfl, ⟨⟨gd 719 rfl rfl, gd 67 rfl rfl, rfl, by decide, by decide +kernel⟩, by decide +kernel⟩⟩
def mX10_both : MTy := (10, yX10_both, cX10_both, 4, (some .int))
set_option maxRecDepth 20000 in
theorem okX10_both : OkI mX10_both := ⟨gd 730 rfl rfl, gd 731 rfl rfl, ⟨⟨gd 732 rfl rfl, gd 67 rfl rfl, rfl, by decide, by decide +kernel⟩, by decide +kernel⟩⟩
def mX10_broker : MTy := (10, yX10_broker, cX10_broker, 2, (some .int))
set_option maxRecDepth 20000 in
theorem okX10_broker : OkI mX10_broker := ⟨gd 750 rfl rfl, gd 751 rfl rfl, ⟨⟨gd 752 rfl rfl, gd 67 rfl rfl, rfl, by decide, by decide +kernel⟩, by decide +kernel⟩⟩
def mX10_other : MTy := (10, yX10_other, cX10_other, 5, (some .int))
set_option maxRecDepth 20000 in
theorem okX10_other : OkI mX10_other := ⟨gd 775 rfl rfl, gd 776 rfl rfl, ⟨⟨gd 777 rfl rfl, gd 67 rfl rfl, rfl, by decide, by decide +kernel⟩, by decide +kernel⟩⟩
def mX10_sheet : MTy := (10, yX10_sheet, cX10_sheet, 4, (some .int))
set_option maxRecDepth 20000 in
theorem okX10_sheet : OkI mX10_sheet := ⟨gd 784 rfl rfl, gd 785 rfl rfl, ⟨⟨gd 786 rfl rfl, gd 67 rfl rfl, rfl, by decide, by decide +kernel⟩, by decide +kernel⟩⟩
def mX10_lose : MTy := (10, yX10_lose, cX10_lose, 2, (some .int))
set_option maxRecDepth 20000 in
theorem okX10_lose : OkI mX10_lose := ⟨gd 796 rfl rfl, gd 797 rfl rfl, ⟨⟨gd 798 rfl rfl, gd 67 rfl rfl, rfl, by decide, by decide +kernel⟩, by decide +kernel⟩⟩
def mX10_put : MTy := (10, yX10_put, cX10_put, 6, (some .int))
set_option maxRecDepth 20000 in
theorem okX10_put : OkI mX10_put := ⟨gd 800 rfl rfl, gd 801 rfl rfl, ⟨⟨gd 802 rfl rfl, gd 67 rfl rfl, rfl, by decide, by decide +kernel⟩, by decide +kernel⟩⟩
def mX10_get : MTy := (10, yX10_get, cX10_get, 5, (some .int))
set_option maxRecDepth 20000 in
theorem okX10_get : OkI mX10_get := ⟨gd 812 rfl rfl, gd 813 rfl rfl, ⟨⟨gd 814 rfl rfl, gd 67 rfl rfl, rfl, by decide, by decide +kernel⟩, by decide +kernel⟩⟩
def mX10_copy : MTy := (10, yX10_copy, cX10_copy, 8, (some .int))
set_option maxRecDepth 20000 in
theorem okX10_copy : OkI mX10_copy := ⟨gd 817 rfl rfl, gd 818 rfl rfl, ⟨⟨gd 819 rfl rfl, gd 67 rfl rfl, rfl, by decide, by decide +kernel⟩, by decide +kernel⟩⟩
def mX10_write : MTy := (10, yX10_write, cX10_write, 4, (some .int))
set_option maxRecDepth 20000 in
theorem okX10_write : OkI mX10_write := ⟨gd 826 rfl rfl, gd 827 rfl rfl, ⟨⟨gd 828 rfl rfl, gd 67 rfl rfl, rfl, by decide, by decide +kernel⟩, by decide +kernel⟩⟩
def mX10_count : MTy := (10, yX10_count, cX10_count, 2, (some .int))
set_option maxRecDepth 20000 in
theorem okX10_count : OkI mX10_count := ⟨gd 831 rfl rfl, gd 832 rfl rfl, ⟨⟨gd 833 rfl rfl, gd 67 rfl rfl, rfl, by decide, by decide +kernel⟩, by decide +kernel⟩⟩
def mX10_digest : MTy := (10, yX10_digest, cX10_digest, 6, (some .long))
set_option maxRecDepth 20000 in
theorem okX10_digest : OkI mX10_digest := ⟨gd 835 rfl rfl, gd 836 rfl rfl, ⟨⟨gd 837 rfl rfl, gd 67 rfl rfl, rfl, by decide, by decide +kernel⟩, by decide +kernel⟩⟩
def mX10_mixedPerson : MTy := (10, yX10_mixedPerson, cX10_mixedPerson, 7, (some .long))
set_option maxRecDepth 20000 in
theorem okX10_mixedPerson : OkI mX10_mixedPerson := ⟨gd 846 rfl rfl, gd 24 rfl rfl, ⟨⟨gd 847 rfl rfl, gd 67 rfl rfl, rfl, by decide, by decide +kernel⟩, by decide +kernel⟩⟩
def mX10_mixed : MTy := (10, yX10_mixed, cX10_mixed, 3, (some .long))
set_option maxRecDepth 20000 in
theorem okX10_mixed : OkS mX10_mixed := ⟨gd 841 rfl rfl, ⟨⟨gd 842 rfl rfl, gd 67 rfl rfl, rfl, by decide, by decide +kernel⟩, by decide +kernel⟩⟩
def mX10_found : MTy := (10, yX10_found, cX10_found, 2, (some .int))
set_option maxRecDepth 20000 in
theorem okX10_found : OkI mX10_found := ⟨gd 516 rfl rfl, gd 6 rfl rfl, ⟨⟨gd 517 rfl rfl, gd 67 rfl rfl, rfl, by decide, by decide +kernel⟩, by decide +kernel⟩⟩
def mX10_textOf : MTy := (10, yX10_textOf, cX10_textOf, 2, (some (.object "ElevenPaces$Text")))
set_option maxRecDepth 20000 in
theorem okX10_textOf : OkI mX10_textOf := ⟨gd 387 rfl rfl, gd 0 rfl rfl, ⟨⟨gd 388 rfl rfl, gd 67 rfl rfl, rfl, by decide, by decide +kernel⟩, by decide +kernel⟩⟩
def mX10_takeIn : MTy := (10, yX10_takeIn, cX10_takeIn, 2, none)
set_option maxRecDepth 20000 in
theorem okX10_takeIn : OkI mX10_takeIn := ⟨gd 400 rfl rfl, gd 1 rfl rfl, ⟨⟨gd 401 rfl rfl, gd 67 rfl rfl, rfl, by decide, by decide +kernel⟩, by decide +kernel⟩⟩
def mX10_goes : MTy := (10, yX10_goes, cX10_goes, 4, (some .boolean))
set_option maxRecDepth 20000 in
theorem okX10_goes : OkI mX10_goes := ⟨gd 483 rfl rfl, gd 5 rfl rfl, ⟨⟨gd 484 rfl rfl, gd 67 rfl rfl, rfl, by decide, by decide +kernel⟩, by decide +kernel⟩⟩
def mX10_isPerson : MTy := (10, yX10_isPerson, cX10_isPerson, 2, (some .boolean))
set_option maxRecDepth 20000 in
theorem okX10_isPerson : OkI mX10_isPerson := ⟨gd 474 rfl rfl, gd 4 rfl rfl, ⟨⟨gd 475 rfl rfl, gd 67 rfl rfl, rfl, by decide, by decide +kernel⟩, by decide +kernel⟩⟩
def mX10_areTwo : MTy := (10, yX10_areTwo, cX10_areTwo, 3, (some .boolean))
set_option maxRecDepth 20000 in
theorem okX10_areTwo : OkI mX10_areTwo := ⟨gd 537 rfl rfl, gd 7 rfl rfl, ⟨⟨gd 538 rfl rfl, gd 67 rfl rfl, rfl, by decide, by decide +kernel⟩, by decide +kernel⟩⟩
def mX10_isText : MTy := (10, yX10_isText, cX10_isText, 1, (some .boolean))
set_option maxRecDepth 20000 in
theorem okX10_isText : OkS mX10_isText := ⟨gd 383 rfl rfl, ⟨⟨gd 384 rfl rfl, gd 67 rfl rfl, rfl, by decide, by decide +kernel⟩, by decide +kernel⟩⟩
def mX10_isDirection : MTy := (10, yX10_isDirection, cX10_isDirection, 1, (some .boolean))
set_option maxRecDepth 20000 in
theorem okX10_isDirection : OkS mX10_isDirection := ⟨gd 445 rfl rfl, ⟨⟨gd 446 rfl rfl, gd 67 rfl rfl, rfl, by decide, by decide +kernel⟩, by decide +kernel⟩⟩
def mX10_isSpot : MTy := (10, yX10_isSpot, cX10_isSpot, 1, (some .boolean))
set_option maxRecDepth 20000 in
theorem okX10_isSpot : OkS mX10_isSpot := ⟨gd 687 rfl rfl, ⟨⟨gd 688 rfl rfl, gd 67 rfl rfl, rfl, by decide, by decide +kernel⟩, by decide +kernel⟩⟩
def mX10_isSheet : MTy := (10, yX10_isSheet, cX10_isSheet, 1, (some .boolean))
set_option maxRecDepth 20000 in
theorem okX10_isSheet : OkS mX10_isSheet := ⟨gd 512 rfl rfl, ⟨⟨gd 513 rfl rfl, gd 67 rfl rfl, rfl, by decide, by decide +kernel⟩, by decide +kernel⟩⟩
def mX10_isForm : MTy := (10, yX10_isForm, cX10_isForm, 1, (some .boolean))
set_option maxRecDepth 20000 in
theorem okX10_isForm : OkS mX10_isForm := ⟨gd 788 rfl rfl, ⟨⟨gd 789 rfl rfl, gd 67 rfl rfl, rfl, by decide, by decide +kernel⟩, by decide +kernel⟩⟩
def mX10_between : MTy := (10, yX10_between, cX10_between, 4, (some .int))
set_option maxRecDepth 20000 in
theorem okX10_between : OkS mX10_between := ⟨gd 505 rfl rfl, ⟨⟨gd 506 rfl rfl, gd 67 rfl rfl, rfl, by decide, by decide +kernel⟩, by decide +kernel⟩⟩
def mX10_neighbour : MTy := (10, yX10_neighbour, cX10_neighbour, 4, (some .int))
set_option maxRecDepth 20000 in
theorem okX10_neighbour : OkS mX10_neighbour := ⟨gd 490 rfl rfl, ⟨⟨gd 491 rfl rfl, gd 67 rfl rfl, rfl, by decide, by decide +kernel⟩, by decide +kernel⟩⟩
def mX10_figure : MTy := (10, yX10_figure, cX10_figure, 1, (some .int))
set_option maxRecDepth 20000 in
theorem okX10_figure : OkS mX10_figure := ⟨gd 421 rfl rfl, ⟨⟨gd 422 rfl rfl, gd 67 rfl rfl, rfl, by decide, by decide +kernel⟩, by decide +kernel⟩⟩
def mX11_init : MTy := (11, yX11_init, cX11_init, 1, none)
set_option maxRecDepth 20000 in
theorem okX11_init : OkC mX11_init := ⟨gd 853 rfl rfl, rfl, ⟨⟨gd 854 rfl rfl, gd 79 rfl rfl, rfl, by decide, by decide +kernel⟩, by decide +kernel⟩⟩
def mX11_in : MTy := (11, yX11_in, cX11_in, 3, (some .boolean))
set_option maxRecDepth 20000 in
theorem okX11_in : OkS mX11_in := ⟨gd 958 rfl rfl, ⟨⟨gd 959 rfl rfl, gd 79 rfl rfl, rfl, by decide, by decide +kernel⟩, by decide +kernel⟩⟩
def mX11_isIn : MTy := (11, yX11_isIn, cX11_isIn, 2, (some .boolean))
set_option maxRecDepth 20000 in
theorem okX11_isIn : OkS mX11_isIn := ⟨gd 1117 rfl rfl, ⟨⟨gd 1118 rfl rfl, gd 79 rfl rfl, rfl, by decide, by decide +kernel⟩, by decide +kernel⟩⟩
def mX11_limit : MTy := (11, yX11_limit, cX11_limit, 1, (some .int))
set_option maxRecDepth 20000 in
theorem okX11_limit : OkS mX11_limit := ⟨gd 961 rfl rfl, ⟨⟨gd 962 rfl rfl, gd 79 rfl rfl, rfl, by decide, by decide +kernel⟩, by decide +kernel⟩⟩
def mX11_type : MTy := (11, yX11_type, cX11_type, 3, (some .int))
set_option maxRecDepth 20000 in
theorem okX11_type : OkI mX11_type := ⟨gd 954 rfl rfl, gd 955 rfl rfl, ⟨⟨gd 956 rfl rfl, gd 79 rfl rfl, rfl, by decide, by decide +kernel⟩, by decide +kernel⟩⟩
def mX11_wipe : MTy := (11, yX11_wipe, cX11_wipe, 3, (some .int))
set_option maxRecDepth 20000 in
theorem okX11_wipe : OkI mX11_wipe := ⟨gd 988 rfl rfl, gd 989 rfl rfl, ⟨⟨gd 990 rfl rfl, gd 79 rfl rfl, rfl, by decide, by decide +kernel⟩, by decide +kernel⟩⟩
def mX11_stands : MTy := (11, yX11_stands, cX11_stands, 3, none)
set_option maxRecDepth 20000 in
theorem okX11_stands : OkI mX11_stands := ⟨gd 965 rfl rfl, gd 25 rfl rfl, ⟨⟨gd 966 rfl rfl, gd 79 rfl rfl, rfl, by decide, by decide +kernel⟩, by decide +kernel⟩⟩
def mX11_byteAt : MTy := (11, yX11_byteAt, cX11_byteAt, 3, (some .int))
set_option maxRecDepth 20000 in
theorem okX11_byteAt : OkI mX11_byteAt := ⟨gd 977 rfl rfl, gd 28 rfl rfl, ⟨⟨gd 978 rfl rfl, gd 79 rfl rfl, rfl, by decide, by decide +kernel⟩, by decide +kernel⟩⟩
def mX11_isFigure : MTy := (11, yX11_isFigure, cX11_isFigure, 2, (some .boolean))
set_option maxRecDepth 20000 in
theorem okX11_isFigure : OkI mX11_isFigure := ⟨gd 985 rfl rfl, gd 30 rfl rfl, ⟨⟨gd 986 rfl rfl, gd 79 rfl rfl, rfl, by decide, by decide +kernel⟩, by decide +kernel⟩⟩
def mX11_pairAt : MTy := (11, yX11_pairAt, cX11_pairAt, 2, (some .int))
set_option maxRecDepth 20000 in
theorem okX11_pairAt : OkI mX11_pairAt := ⟨gd 981 rfl rfl, gd 29 rfl rfl, ⟨⟨gd 982 rfl rfl, gd 79 rfl rfl, rfl, by decide, by decide +kernel⟩, by decide +kernel⟩⟩
def mX11_reads : MTy := (11, yX11_reads, cX11_reads, 7, (some .int))
set_option maxRecDepth 20000 in
theorem okX11_reads : OkI mX11_reads := ⟨gd 973 rfl rfl, gd 27 rfl rfl, ⟨⟨gd 974 rfl rfl, gd 79 rfl rfl, rfl, by decide, by decide +kernel⟩, by decide +kernel⟩⟩
def mX11_peopleFault : MTy := (11, yX11_peopleFault, cX11_peopleFault, 1, (some .int))
set_option maxRecDepth 20000 in
theorem okX11_peopleFault : OkI mX11_peopleFault := ⟨gd 969 rfl rfl, gd 26 rfl rfl, ⟨⟨gd 970 rfl rfl, gd 79 rfl rfl, rfl, by decide, by decide +kernel⟩, by decide +kernel⟩⟩
def mX11_peopleNow : MTy := (11, yX11_peopleNow, cX11_peopleNow, 2, (some .int))
set_option maxRecDepth 20000 in
theorem okX11_peopleNow : OkI mX11_peopleNow := ⟨gd 1017 rfl rfl, gd 34 rfl rfl, ⟨⟨gd 1018 rfl rfl, gd 79 rfl rfl, rfl, by decide, by decide +kernel⟩, by decide +kernel⟩⟩
def mX11_isPerson : MTy := (11, yX11_isPerson, cX11_isPerson, 2, (some .boolean))
set_option maxRecDepth 20000 in
theorem okX11_isPerson : OkI mX11_isPerson := ⟨gd 1013 rfl rfl, gd 33 rfl rfl, ⟨⟨gd 1014 rfl rfl, gd 79 rfl rfl, rfl, by decide, by decide +kernel⟩, by decide +kernel⟩⟩
def mX11_fairFault : MTy := (11, yX11_fairFault, cX11_fairFault, 8, (some .int))
set_option maxRecDepth 20000 in
theorem okX11_fairFault : OkI mX11_fairFault := ⟨gd 1001 rfl rfl, gd 32 rfl rfl, ⟨⟨gd 1002 rfl rfl, gd 79 rfl rfl, rfl, by decide, by decide +kernel⟩, by decide +kernel⟩⟩
def mX11_faultOf : MTy := (11, yX11_faultOf, cX11_faultOf, 2, (some .int))
set_option maxRecDepth 20000 in
theorem okX11_faultOf : OkI mX11_faultOf := ⟨gd 997 rfl rfl, gd 31 rfl rfl, ⟨⟨gd 998 rfl rfl, gd 79 rfl rfl, rfl, by decide, by decide +kernel⟩, by decide +kernel⟩⟩
def mX11_fault : MTy := (11, yX11_fault, cX11_fault, 2, (some .int))
set_option maxRecDepth 20000 in
theorem okX11_fault : OkI mX11_fault := ⟨gd 992 rfl rfl, gd 993 rfl rfl, ⟨⟨gd 994 rfl rfl, gd 79 rfl rfl, rfl, by decide, by decide +kernel⟩, by decide +kernel⟩⟩
def mX11_set : MTy := (11, yX11_set, cX11_set, 4, (some .int))
set_option maxRecDepth 20000 in
theorem okX11_set : OkI mX11_set := ⟨gd 1004 rfl rfl, gd 1005 rfl rfl, ⟨⟨gd 1006 rfl rfl, gd 79 rfl rfl, rfl, by decide, by decide +kernel⟩, by decide +kernel⟩⟩
def mX11_personOf : MTy := (11, yX11_personOf, cX11_personOf, 3, (some .int))
set_option maxRecDepth 20000 in
theorem okX11_personOf : OkI mX11_personOf := ⟨gd 1021 rfl rfl, gd 35 rfl rfl, ⟨⟨gd 1022 rfl rfl, gd 79 rfl rfl, rfl, by decide, by decide +kernel⟩, by decide +kernel⟩⟩
def mX11_person : MTy := (11, yX11_person, cX11_person, 3, (some .int))
set_option maxRecDepth 20000 in
theorem okX11_person : OkI mX11_person := ⟨gd 1008 rfl rfl, gd 1009 rfl rfl, ⟨⟨gd 1010 rfl rfl, gd 79 rfl rfl, rfl, by decide, by decide +kernel⟩, by decide +kernel⟩⟩
def mX11_awayBy : MTy := (11, yX11_awayBy, cX11_awayBy, 4, (some .int))
set_option maxRecDepth 20000 in
theorem okX11_awayBy : OkS mX11_awayBy := ⟨gd 1043 rfl rfl, ⟨⟨gd 1044 rfl rfl, gd 79 rfl rfl, rfl, by decide, by decide +kernel⟩, by decide +kernel⟩⟩
def mX11_stepTo : MTy := (11, yX11_stepTo, cX11_stepTo, 4, (some .int))
set_option maxRecDepth 20000 in
theorem okX11_stepTo : OkS mX11_stepTo := ⟨gd 1036 rfl rfl, ⟨⟨gd 1037 rfl rfl, gd 79 rfl rfl, rfl, by decide, by decide +kernel⟩, by decide +kernel⟩⟩
def mX11_isFree : MTy := (11, yX11_isFree, cX11_isFree, 4, (some .boolean))
set_option maxRecDepth 20000 in
theorem okX11_isFree : OkI mX11_isFree := ⟨gd 1040 rfl rfl, gd 38 rfl rfl, ⟨⟨gd 1041 rfl rfl, gd 79 rfl rfl, rfl, by decide, by decide +kernel⟩, by decide +kernel⟩⟩
def mX11_lays : MTy := (11, yX11_lays, cX11_lays, 3, none)
set_option maxRecDepth 20000 in
theorem okX11_lays : OkI mX11_lays := ⟨gd 1033 rfl rfl, gd 37 rfl rfl, ⟨⟨gd 1034 rfl rfl, gd 79 rfl rfl, rfl, by decide, by decide +kernel⟩, by decide +kernel⟩⟩
def mX11_steps : MTy := (11, yX11_steps, cX11_steps, 4, (some .boolean))
set_option maxRecDepth 20000 in
theorem okX11_steps : OkI mX11_steps := ⟨gd 1029 rfl rfl, gd 36 rfl rfl, ⟨⟨gd 1030 rfl rfl, gd 79 rfl rfl, rfl, by decide, by decide +kernel⟩, by decide +kernel⟩⟩
def mX11_step : MTy := (11, yX11_step, cX11_step, 3, (some .int))
set_option maxRecDepth 20000 in
theorem okX11_step : OkI mX11_step := ⟨gd 1024 rfl rfl, gd 1025 rfl rfl, ⟨⟨gd 1026 rfl rfl, gd 79 rfl rfl, rfl, by decide, by decide +kernel⟩, by decide +kernel⟩⟩
def mX11_read : MTy := (11, yX11_read, cX11_read, 4, (some .int))
set_option maxRecDepth 20000 in
theorem okX11_read : OkI mX11_read := ⟨gd 1046 rfl rfl, gd 1047 rfl rfl, ⟨⟨gd 1048 rfl rfl, gd 79 rfl rfl, rfl, by decide, by decide +kernel⟩, by decide +kernel⟩⟩
def mX11_home : MTy := (11, yX11_home, cX11_home, 4, (some .int))
set_option maxRecDepth 20000 in
theorem okX11_home : OkI mX11_home := ⟨gd 1057 rfl rfl, gd 1058 rfl rfl, ⟨⟨gd 1059 rfl rfl, gd 79 rfl rfl, rfl, by decide, by decide +kernel⟩, by decide +kernel⟩⟩
def mX11_away : MTy := (11, yX11_away, cX11_away, 3, (some .int))
set_option maxRecDepth 20000 in
theorem okX11_away : OkI mX11_away := ⟨gd 1061 rfl rfl, gd 1062 rfl rfl, ⟨⟨gd 1063 rfl rfl, gd 79 rfl rfl, rfl, by decide, by decide +kernel⟩, by decide +kernel⟩⟩
def mX11_nearer : MTy := (11, yX11_nearer, cX11_nearer, 7, (some .int))
set_option maxRecDepth 20000 in
theorem okX11_nearer : OkI mX11_nearer := ⟨gd 1078 rfl rfl, gd 42 rfl rfl, ⟨⟨gd 1079 rfl rfl, gd 79 rfl rfl, rfl, by decide, by decide +kernel⟩, by decide +kernel⟩⟩
def mX11_buyer : MTy := (11, yX11_buyer, cX11_buyer, 3, (some .int))
set_option maxRecDepth 20000 in
theorem okX11_buyer : OkI mX11_buyer := ⟨gd 1086 rfl rfl, gd 44 rfl rfl, ⟨⟨gd 1087 rfl rfl, gd 79 rfl rfl, rfl, by decide, by decide +kernel⟩, by decide +kernel⟩⟩
def mX11_worthOf : MTy := (11, yX11_worthOf, cX11_worthOf, 4, (some .int))
set_option maxRecDepth 20000 in
theorem okX11_worthOf : OkI mX11_worthOf := ⟨gd 1082 rfl rfl, gd 43 rfl rfl, ⟨⟨gd 1083 rfl rfl, gd 79 rfl rfl, rfl, by decide, by decide +kernel⟩, by decide +kernel⟩⟩
def mX11_bindsBy : MTy := (11, yX11_bindsBy, cX11_bindsBy, 6, (some .int))
set_option maxRecDepth 20000 in
theorem okX11_bindsBy : OkI mX11_bindsBy := ⟨gd 1074 rfl rfl, gd 41 rfl rfl, ⟨⟨gd 1075 rfl rfl, gd 79 rfl rfl, rfl, by decide, by decide +kernel⟩, by decide +kernel⟩⟩
def mX11_isBound : MTy := (11, yX11_isBound, cX11_isBound, 3, (some .boolean))
set_option maxRecDepth 20000 in
theorem okX11_isBound : OkI mX11_isBound := ⟨gd 1090 rfl rfl, gd 45 rfl rfl, ⟨⟨gd 1091 rfl rfl, gd 79 rfl rfl, rfl, by decide, by decide +kernel⟩, by decide +kernel⟩⟩
def mX11_areTwo : MTy := (11, yX11_areTwo, cX11_areTwo, 3, (some .boolean))
set_option maxRecDepth 20000 in
theorem okX11_areTwo : OkI mX11_areTwo := ⟨gd 1070 rfl rfl, gd 40 rfl rfl, ⟨⟨gd 1071 rfl rfl, gd 79 rfl rfl, rfl, by decide, by decide +kernel⟩, by decide +kernel⟩⟩
def mX11_binds : MTy := (11, yX11_binds, cX11_binds, 4, (some .int))
set_option maxRecDepth 20000 in
theorem okX11_binds : OkI mX11_binds := ⟨gd 1065 rfl rfl, gd 1066 rfl rfl, ⟨⟨gd 1067 rfl rfl, gd 79 rfl rfl, rfl, by decide, by decide +kernel⟩, by decide +kernel⟩⟩
def mX11_pairsBy : MTy := (11, yX11_pairsBy, cX11_pairsBy, 5, (some .int))
set_option maxRecDepth 20000 in
theorem okX11_pairsBy : OkI mX11_pairsBy := ⟨gd 1102 rfl rfl, gd 47 rfl rfl, ⟨⟨gd 1103 rfl rfl, gd 79 rfl rfl, rfl, by decide, by decide +kernel⟩, by decide +kernel⟩⟩
def mX11_pairsNow : MTy := (11, yX11_pairsNow, cX11_pairsNow, 1, (some .int))
set_option maxRecDepth 20000 in
theorem okX11_pairsNow : OkI mX11_pairsNow := ⟨gd 1098 rfl rfl, gd 46 rfl rfl, ⟨⟨gd 1099 rfl rfl, gd 79 rfl rfl, rfl, by decide, by decide +kernel⟩, by decide +kernel⟩⟩
def mX11_pairs : MTy := (11, yX11_pairs, cX11_pairs, 1, (some .int))
set_option maxRecDepth 20000 in
theorem okX11_pairs : OkI mX11_pairs := ⟨gd 1093 rfl rfl, gd 1094 rfl rfl, ⟨⟨gd 1095 rfl rfl, gd 79 rfl rfl, rfl, by decide, by decide +kernel⟩, by decide +kernel⟩⟩
def mX11_laysOnce : MTy := (11, yX11_laysOnce, cX11_laysOnce, 6, none)
set_option maxRecDepth 20000 in
theorem okX11_laysOnce : OkI mX11_laysOnce := ⟨gd 1114 rfl rfl, gd 49 rfl rfl, ⟨⟨gd 1115 rfl rfl, gd 79 rfl rfl, rfl, by decide, by decide +kernel⟩, by decide +kernel⟩⟩
def mX11_onceOf : MTy := (11, yX11_onceOf, cX11_onceOf, 2, (some .int))
set_option maxRecDepth 20000 in
theorem okX11_onceOf : OkI mX11_onceOf := ⟨gd 1110 rfl rfl, gd 48 rfl rfl, ⟨⟨gd 1111 rfl rfl, gd 79 rfl rfl, rfl, by decide, by decide +kernel⟩, by decide +kernel⟩⟩
def mX11_once : MTy := (11, yX11_once, cX11_once, 2, (some .int))
set_option maxRecDepth 20000 in
theorem okX11_once : OkI mX11_once := ⟨gd 1105 rfl rfl, gd 1106 rfl rfl, ⟨⟨gd 1107 rfl rfl, gd 79 rfl rfl, rfl, by decide, by decide +kernel⟩, by decide +kernel⟩⟩
def mX11_worthNow : MTy := (11, yX11_worthNow, cX11_worthNow, 1, (some .int))
set_option maxRecDepth 20000 in
theorem okX11_worthNow : OkI mX11_worthNow := ⟨gd 1126 rfl rfl, gd 50 rfl rfl, ⟨⟨gd 1127 rfl rfl, gd 79 rfl rfl, rfl, by decide, by decide +kernel⟩, by decide +kernel⟩⟩
def mX11_worth : MTy := (11, yX11_worth, cX11_worth, 1, (some .int))
set_option maxRecDepth 20000 in
theorem okX11_worth : OkI mX11_worth := ⟨gd 1121 rfl rfl, gd 1122 rfl rfl, ⟨⟨gd 1123 rfl rfl, gd 79 rfl rfl, rfl, by decide, by decide +kernel⟩, by decide +kernel⟩⟩
def mX11_judges : MTy := (11, yX11_judges, cX11_judges, 8, none)
set_option maxRecDepth 20000 in
theorem okX11_judges : OkI mX11_judges := ⟨gd 1138 rfl rfl, gd 52 rfl rfl, ⟨⟨gd 1139 rfl rfl, gd 79 rfl rfl, rfl, by decide, by decide +kernel⟩, by decide +kernel⟩⟩
def mX11_judgedOf : MTy := (11, yX11_judgedOf, cX11_judgedOf, 2, (some .int))
set_option maxRecDepth 20000 in
theorem okX11_judgedOf : OkI mX11_judgedOf := ⟨gd 1134 rfl rfl, gd 51 rfl rfl, ⟨⟨gd 1135 rfl rfl, gd 79 rfl rfl, rfl, by decide, by decide +kernel⟩, by decide +kernel⟩⟩
def mX11_judged : MTy := (11, yX11_judged, cX11_judged, 2, (some .int))
set_option maxRecDepth 20000 in
theorem okX11_judged : OkI mX11_judged := ⟨gd 1129 rfl rfl, gd 1130 rfl rfl, ⟨⟨gd 1131 rfl rfl, gd 79 rfl rfl, rfl, by decide, by decide +kernel⟩, by decide +kernel⟩⟩
def mX11_endsOf : MTy := (11, yX11_endsOf, cX11_endsOf, 2, (some .int))
set_option maxRecDepth 20000 in
theorem okX11_endsOf : OkI mX11_endsOf := ⟨gd 1146 rfl rfl, gd 53 rfl rfl, ⟨⟨gd 1147 rfl rfl, gd 79 rfl rfl, rfl, by decide, by decide +kernel⟩, by decide +kernel⟩⟩
def mX11_ends : MTy := (11, yX11_ends, cX11_ends, 2, (some .int))
set_option maxRecDepth 20000 in
theorem okX11_ends : OkI mX11_ends := ⟨gd 1141 rfl rfl, gd 1142 rfl rfl, ⟨⟨gd 1143 rfl rfl, gd 79 rfl rfl, rfl, by decide, by decide +kernel⟩, by decide +kernel⟩⟩
def mX11_laysFar : MTy := (11, yX11_laysFar, cX11_laysFar, 8, none)
set_option maxRecDepth 20000 in
theorem okX11_laysFar : OkI mX11_laysFar := ⟨gd 1158 rfl rfl, gd 55 rfl rfl, ⟨⟨gd 1159 rfl rfl, gd 79 rfl rfl, rfl, by decide, by decide +kernel⟩, by decide +kernel⟩⟩
def mX11_comesOf : MTy := (11, yX11_comesOf, cX11_comesOf, 3, (some .int))
set_option maxRecDepth 20000 in
theorem okX11_comesOf : OkI mX11_comesOf := ⟨gd 1154 rfl rfl, gd 54 rfl rfl, ⟨⟨gd 1155 rfl rfl, gd 79 rfl rfl, rfl, by decide, by decide +kernel⟩, by decide +kernel⟩⟩
def mX11_comes : MTy := (11, yX11_comes, cX11_comes, 3, (some .int))
set_option maxRecDepth 20000 in
theorem okX11_comes : OkI mX11_comes := ⟨gd 1149 rfl rfl, gd 1150 rfl rfl, ⟨⟨gd 1151 rfl rfl, gd 79 rfl rfl, rfl, by decide, by decide +kernel⟩, by decide +kernel⟩⟩
def mX11_way : MTy := (11, yX11_way, cX11_way, 9, (some .int))
set_option maxRecDepth 20000 in
theorem okX11_way : OkI mX11_way := ⟨gd 1161 rfl rfl, gd 1162 rfl rfl, ⟨⟨gd 1163 rfl rfl, gd 79 rfl rfl, rfl, by decide, by decide +kernel⟩, by decide +kernel⟩⟩
def mX11_hindersOf : MTy := (11, yX11_hindersOf, cX11_hindersOf, 8, (some .int))
set_option maxRecDepth 20000 in
theorem okX11_hindersOf : OkI mX11_hindersOf := ⟨gd 1170 rfl rfl, gd 56 rfl rfl, ⟨⟨gd 1171 rfl rfl, gd 79 rfl rfl, rfl, by decide, by decide +kernel⟩, by decide +kernel⟩⟩
def mX11_hinders : MTy := (11, yX11_hinders, cX11_hinders, 3, (some .int))
set_option maxRecDepth 20000 in
theorem okX11_hinders : OkI mX11_hinders := ⟨gd 1165 rfl rfl, gd 1166 rfl rfl, ⟨⟨gd 1167 rfl rfl, gd 79 rfl rfl, rfl, by decide, by decide +kernel⟩, by decide +kernel⟩⟩
def mX11_post : MTy := (11, yX11_post, cX11_post, 2, (some .int))
set_option maxRecDepth 20000 in
theorem okX11_post : OkI mX11_post := ⟨gd 1173 rfl rfl, gd 1174 rfl rfl, ⟨⟨gd 1175 rfl rfl, gd 79 rfl rfl, rfl, by decide, by decide +kernel⟩, by decide +kernel⟩⟩
def mX11_gone : MTy := (11, yX11_gone, cX11_gone, 2, (some .int))
set_option maxRecDepth 20000 in
theorem okX11_gone : OkI mX11_gone := ⟨gd 1177 rfl rfl, gd 1178 rfl rfl, ⟨⟨gd 1179 rfl rfl, gd 79 rfl rfl, rfl, by decide, by decide +kernel⟩, by decide +kernel⟩⟩
def mX11_isDue : MTy := (11, yX11_isDue, cX11_isDue, 3, (some .boolean))
set_option maxRecDepth 20000 in
theorem okX11_isDue : OkI mX11_isDue := ⟨gd 1190 rfl rfl, gd 58 rfl rfl, ⟨⟨gd 1191 rfl rfl, gd 79 rfl rfl, rfl, by decide, by decide +kernel⟩, by decide +kernel⟩⟩
def mX11_seesNow : MTy := (11, yX11_seesNow, cX11_seesNow, 4, (some .int))
set_option maxRecDepth 20000 in
theorem okX11_seesNow : OkI mX11_seesNow := ⟨gd 1186 rfl rfl, gd 57 rfl rfl, ⟨⟨gd 1187 rfl rfl, gd 79 rfl rfl, rfl, by decide, by decide +kernel⟩, by decide +kernel⟩⟩
def mX11_sees : MTy := (11, yX11_sees, cX11_sees, 1, (some .int))
set_option maxRecDepth 20000 in
theorem okX11_sees : OkI mX11_sees := ⟨gd 1181 rfl rfl, gd 1182 rfl rfl, ⟨⟨gd 1183 rfl rfl, gd 79 rfl rfl, rfl, by decide, by decide +kernel⟩, by decide +kernel⟩⟩
def mX11_moreOf : MTy := (11, yX11_moreOf, cX11_moreOf, 7, (some .int))
set_option maxRecDepth 20000 in
theorem okX11_moreOf : OkI mX11_moreOf := ⟨gd 1198 rfl rfl, gd 59 rfl rfl, ⟨⟨gd 1199 rfl rfl, gd 79 rfl rfl, rfl, by decide, by decide +kernel⟩, by decide +kernel⟩⟩
def mX11_more : MTy := (11, yX11_more, cX11_more, 2, (some .int))
set_option maxRecDepth 20000 in
theorem okX11_more : OkI mX11_more := ⟨gd 1193 rfl rfl, gd 1194 rfl rfl, ⟨⟨gd 1195 rfl rfl, gd 79 rfl rfl, rfl, by decide, by decide +kernel⟩, by decide +kernel⟩⟩
def mX11_both : MTy := (11, yX11_both, cX11_both, 6, (some .int))
set_option maxRecDepth 20000 in
theorem okX11_both : OkI mX11_both := ⟨gd 1201 rfl rfl, gd 1202 rfl rfl, ⟨⟨gd 1203 rfl rfl, gd 79 rfl rfl, rfl, by decide, by decide +kernel⟩, by decide +kernel⟩⟩
def mX11_brokes : MTy := (11, yX11_brokes, cX11_brokes, 5, (some .int))
set_option maxRecDepth 20000 in
theorem okX11_brokes : OkI mX11_brokes := ⟨gd 1214 rfl rfl, gd 61 rfl rfl, ⟨⟨gd 1215 rfl rfl, gd 79 rfl rfl, rfl, by decide, by decide +kernel⟩, by decide +kernel⟩⟩
def mX11_brokerOf : MTy := (11, yX11_brokerOf, cX11_brokerOf, 6, (some .int))
set_option maxRecDepth 20000 in
theorem okX11_brokerOf : OkI mX11_brokerOf := ⟨gd 1210 rfl rfl, gd 60 rfl rfl, ⟨⟨gd 1211 rfl rfl, gd 79 rfl rfl, rfl, by decide, by decide +kernel⟩, by decide +kernel⟩⟩
def mX11_broker : MTy := (11, yX11_broker, cX11_broker, 2, (some .int))
set_option maxRecDepth 20000 in
theorem okX11_broker : OkI mX11_broker := ⟨gd 1205 rfl rfl, gd 1206 rfl rfl, ⟨⟨gd 1207 rfl rfl, gd 79 rfl rfl, rfl, by decide, by decide +kernel⟩, by decide +kernel⟩⟩
def mX11_otherOf : MTy := (11, yX11_otherOf, cX11_otherOf, 8, (some .int))
set_option maxRecDepth 20000 in
theorem okX11_otherOf : OkI mX11_otherOf := ⟨gd 1222 rfl rfl, gd 62 rfl rfl, ⟨⟨gd 1223 rfl rfl, gd 79 rfl rfl, rfl, by decide, by decide +kernel⟩, by decide +kernel⟩⟩
def mX11_other : MTy := (11, yX11_other, cX11_other, 4, (some .int))
set_option maxRecDepth 20000 in
theorem okX11_other : OkI mX11_other := ⟨gd 1217 rfl rfl, gd 1218 rfl rfl, ⟨⟨gd 1219 rfl rfl, gd 79 rfl rfl, rfl, by decide, by decide +kernel⟩, by decide +kernel⟩⟩
def mX11_meets : MTy := (11, yX11_meets, cX11_meets, 2, (some .int))
set_option maxRecDepth 20000 in
theorem okX11_meets : OkI mX11_meets := ⟨gd 1054 rfl rfl, gd 39 rfl rfl, ⟨⟨gd 1055 rfl rfl, gd 79 rfl rfl, rfl, by decide, by decide +kernel⟩, by decide +kernel⟩⟩
def mX11_isSheet : MTy := (11, yX11_isSheet, cX11_isSheet, 1, (some .boolean))
set_option maxRecDepth 20000 in
theorem okX11_isSheet : OkS mX11_isSheet := ⟨gd 1050 rfl rfl, ⟨⟨gd 1051 rfl rfl, gd 79 rfl rfl, rfl, by decide, by decide +kernel⟩, by decide +kernel⟩⟩
def mX11_sheet : MTy := (11, yX11_sheet, cX11_sheet, 5, (some .int))
set_option maxRecDepth 20000 in
theorem okX11_sheet : OkI mX11_sheet := ⟨gd 1225 rfl rfl, gd 1226 rfl rfl, ⟨⟨gd 1227 rfl rfl, gd 79 rfl rfl, rfl, by decide, by decide +kernel⟩, by decide +kernel⟩⟩
def mX11_lose : MTy := (11, yX11_lose, cX11_lose, 2, (some .int))
set_option maxRecDepth 20000 in
theorem okX11_lose : OkI mX11_lose := ⟨gd 1229 rfl rfl, gd 1230 rfl rfl, ⟨⟨gd 1231 rfl rfl, gd 79 rfl rfl, rfl, by decide, by decide +kernel⟩, by decide +kernel⟩⟩
def mX11_lacks : MTy := (11, yX11_lacks, cX11_lacks, 4, (some .int))
set_option maxRecDepth 20000 in
theorem okX11_lacks : OkI mX11_lacks := ⟨gd 1238 rfl rfl, gd 63 rfl rfl, ⟨⟨gd 1239 rfl rfl, gd 79 rfl rfl, rfl, by decide, by decide +kernel⟩, by decide +kernel⟩⟩
def mX11_keep : MTy := (11, yX11_keep, cX11_keep, 4, none)
set_option maxRecDepth 20000 in
theorem okX11_keep : OkI mX11_keep := ⟨gd 1242 rfl rfl, gd 64 rfl rfl, ⟨⟨gd 1243 rfl rfl, gd 79 rfl rfl, rfl, by decide, by decide +kernel⟩, by decide +kernel⟩⟩
def mX11_put : MTy := (11, yX11_put, cX11_put, 6, (some .int))
set_option maxRecDepth 20000 in
theorem okX11_put : OkI mX11_put := ⟨gd 1233 rfl rfl, gd 1234 rfl rfl, ⟨⟨gd 1235 rfl rfl, gd 79 rfl rfl, rfl, by decide, by decide +kernel⟩, by decide +kernel⟩⟩
def mX11_get : MTy := (11, yX11_get, cX11_get, 5, (some .int))
set_option maxRecDepth 20000 in
theorem okX11_get : OkI mX11_get := ⟨gd 1245 rfl rfl, gd 1246 rfl rfl, ⟨⟨gd 1247 rfl rfl, gd 79 rfl rfl, rfl, by decide, by decide +kernel⟩, by decide +kernel⟩⟩
def mX11_copy : MTy := (11, yX11_copy, cX11_copy, 7, (some .int))
set_option maxRecDepth 20000 in
theorem okX11_copy : OkI mX11_copy := ⟨gd 1250 rfl rfl, gd 1251 rfl rfl, ⟨⟨gd 1252 rfl rfl, gd 79 rfl rfl, rfl, by decide, by decide +kernel⟩, by decide +kernel⟩⟩
def mX11_write : MTy := (11, yX11_write, cX11_write, 4, (some .int))
set_option maxRecDepth 20000 in
theorem okX11_write : OkI mX11_write := ⟨gd 1254 rfl rfl, gd 1255 rfl rfl, ⟨⟨gd 1256 rfl rfl, gd 79 rfl rfl, rfl, by decide, by decide +kernel⟩, by decide +kernel⟩⟩
def mX11_partsNow : MTy := (11, yX11_partsNow, cX11_partsNow, 2, (some .int))
set_option maxRecDepth 20000 in
theorem okX11_partsNow : OkI mX11_partsNow := ⟨gd 1263 rfl rfl, gd 65 rfl rfl, ⟨⟨gd 1264 rfl rfl, gd 79 rfl rfl, rfl, by decide, by decide +kernel⟩, by decide +kernel⟩⟩
def mX11_count : MTy := (11, yX11_count, cX11_count, 2, (some .int))
set_option maxRecDepth 20000 in
theorem okX11_count : OkI mX11_count := ⟨gd 1258 rfl rfl, gd 1259 rfl rfl, ⟨⟨gd 1260 rfl rfl, gd 79 rfl rfl, rfl, by decide, by decide +kernel⟩, by decide +kernel⟩⟩
def mX11_digest : MTy := (11, yX11_digest, cX11_digest, 5, (some .long))
set_option maxRecDepth 20000 in
theorem okX11_digest : OkI mX11_digest := ⟨gd 1266 rfl rfl, gd 1267 rfl rfl, ⟨⟨gd 1268 rfl rfl, gd 79 rfl rfl, rfl, by decide, by decide +kernel⟩, by decide +kernel⟩⟩
def mJ7_fill_53178 : MTy := (15, yJ7_fill_53178, cJ7_fill_53178, 4, none)
set_option maxRecDepth 20000 in
theorem okJ7_fill_53178 : OkS mJ7_fill_53178 := ⟨gd 635 rfl rfl, ⟨⟨gd 636 rfl rfl, gd 81 rfl rfl, rfl, by decide, by decide +kernel⟩, by decide +kernel⟩⟩
def mL_law : MTy := (12, yL_law, cL_law, 4, some .boolean)
set_option maxRecDepth 20000 in
theorem lk_12_9 : Lnk 12 9 mX10_init := Or.inl (gd 84 rfl rfl)
set_option maxRecDepth 20000 in
theorem lk_10_11 : Lnk 10 11 mX7_init := Or.inl (gd 92 rfl rfl)
set_option maxRecDepth 20000 in
theorem lk_10_30 : Lnk 10 30 mX2_init := Or.inl (gd 155 rfl rfl)
set_option maxRecDepth 20000 in
theorem lk_10_46 : Lnk 10 46 mX8_init := Or.inl (gd 202 rfl rfl)
set_option maxRecDepth 20000 in
theorem lk_10_55 : Lnk 10 55 mX3_init := Or.inl (gd 228 rfl rfl)
set_option maxRecDepth 20000 in
theorem lk_10_62 : Lnk 10 62 mX9_init := Or.inl (gd 256 rfl rfl)
set_option maxRecDepth 20000 in
theorem lk_10_76 : Lnk 10 76 mX6_init := Or.inl (gd 292 rfl rfl)
set_option maxRecDepth 20000 in
theorem lk_12_13 : Lnk 12 13 mX10_type := Or.inl (gd 378 rfl rfl)
set_option maxRecDepth 20000 in
theorem lk_10_92 : Lnk 10 92 mX10_isText := Or.inl (gd 382 rfl rfl)
set_option maxRecDepth 20000 in
theorem lk_10_96 : Lnk 10 96 mX10_textOf := Or.inl (gd 385 rfl rfl)
set_option maxRecDepth 20000 in
theorem lk_10_100 : Lnk 10 100 mX7_isFull := Or.inl (gd 389 rfl rfl)
set_option maxRecDepth 20000 in
theorem lk_10_104 : Lnk 10 104 mX7_add := Or.inl (gd 393 rfl rfl)
set_option maxRecDepth 20000 in
theorem lk_7_25 : Lnk 7 25 mX7_isFull := Or.inl (gd 397 rfl rfl)
set_option maxRecDepth 20000 in
theorem lk_10_107 : Lnk 10 107 mX10_takeIn := Or.inl (gd 398 rfl rfl)
set_option maxRecDepth 20000 in
theorem lk_10_318 : Lnk 10 318 mX0_tell := Or.inl (gd 402 rfl rfl)
set_option maxRecDepth 20000 in
theorem lk_0_34 : Lnk 0 34 mX0_faultOf := Or.inl (gd 406 rfl rfl)
set_option maxRecDepth 20000 in
theorem lk_0_38 : Lnk 0 38 mX7_length := Or.inl (gd 409 rfl rfl)
set_option maxRecDepth 20000 in
theorem lk_0_69 : Lnk 0 69 mX0_faultAt := Or.inl (gd 413 rfl rfl)
set_option maxRecDepth 20000 in
theorem lk_0_58 : Lnk 0 58 mX7_at := Or.inl (gd 416 rfl rfl)
set_option maxRecDepth 20000 in
theorem lk_0_65 : Lnk 0 65 mX0_number := Or.inl (gd 423 rfl rfl)
set_option maxRecDepth 20000 in
theorem lk_0_50 : Lnk 0 50 mX0_place := Or.inl (gd 429 rfl rfl)
set_option maxRecDepth 20000 in
theorem lk_10_322 : Lnk 10 322 mX1_tell := Or.inl (gd 433 rfl rfl)
set_option maxRecDepth 20000 in
theorem lk_1_29 : Lnk 1 29 mX7_length := Or.inl (gd 437 rfl rfl)
set_option maxRecDepth 20000 in
theorem lk_1_35 : Lnk 1 35 mX1_faultOf := Or.inl (gd 438 rfl rfl)
set_option maxRecDepth 20000 in
theorem lk_1_39 : Lnk 1 39 mX7_at := Or.inl (gd 442 rfl rfl)
set_option maxRecDepth 20000 in
theorem lk_10_110 : Lnk 10 110 mX7_length := Or.inl (gd 447 rfl rfl)
set_option maxRecDepth 20000 in
theorem lk_12_18 : Lnk 12 18 mX10_wipe := Or.inl (gd 448 rfl rfl)
set_option maxRecDepth 20000 in
theorem lk_10_114 : Lnk 10 114 mX7_clear := Or.inl (gd 452 rfl rfl)
set_option maxRecDepth 20000 in
theorem lk_12_23 : Lnk 12 23 mX10_fault := Or.inl (gd 456 rfl rfl)
set_option maxRecDepth 20000 in
theorem lk_12_27 : Lnk 12 27 mX10_set := Or.inl (gd 460 rfl rfl)
set_option maxRecDepth 20000 in
theorem lk_12_31 : Lnk 12 31 mX10_person := Or.inl (gd 468 rfl rfl)
set_option maxRecDepth 20000 in
theorem lk_10_131 : Lnk 10 131 mX10_isPerson := Or.inl (gd 472 rfl rfl)
set_option maxRecDepth 20000 in
theorem lk_12_35 : Lnk 12 35 mX10_step := Or.inl (gd 476 rfl rfl)
set_option maxRecDepth 20000 in
theorem lk_10_146 : Lnk 10 146 mX10_isDirection := Or.inl (gd 480 rfl rfl)
set_option maxRecDepth 20000 in
theorem lk_10_149 : Lnk 10 149 mX10_goes := Or.inl (gd 481 rfl rfl)
set_option maxRecDepth 20000 in
theorem lk_10_325 : Lnk 10 325 mX2_lawfulStep := Or.inl (gd 485 rfl rfl)
set_option maxRecDepth 20000 in
theorem lk_2_23 : Lnk 2 23 mX2_mayStand := Or.inl (gd 496 rfl rfl)
set_option maxRecDepth 20000 in
theorem lk_2_27 : Lnk 2 27 mX2_square := Or.inl (gd 500 rfl rfl)
set_option maxRecDepth 20000 in
theorem lk_12_39 : Lnk 12 39 mX10_read := Or.inl (gd 507 rfl rfl)
set_option maxRecDepth 20000 in
theorem lk_10_153 : Lnk 10 153 mX10_isSheet := Or.inl (gd 511 rfl rfl)
set_option maxRecDepth 20000 in
theorem lk_10_160 : Lnk 10 160 mX10_found := Or.inl (gd 514 rfl rfl)
set_option maxRecDepth 20000 in
theorem lk_12_43 : Lnk 12 43 mX10_home := Or.inl (gd 518 rfl rfl)
set_option maxRecDepth 20000 in
theorem lk_10_170 : Lnk 10 170 mX0_goHome := Or.inl (gd 522 rfl rfl)
set_option maxRecDepth 20000 in
theorem lk_12_48 : Lnk 12 48 mX10_away := Or.inl (gd 526 rfl rfl)
set_option maxRecDepth 20000 in
theorem lk_10_173 : Lnk 10 173 mX10_between := Or.inl (gd 530 rfl rfl)
set_option maxRecDepth 20000 in
theorem lk_12_52 : Lnk 12 52 mX10_binds := Or.inl (gd 531 rfl rfl)
set_option maxRecDepth 20000 in
theorem lk_10_177 : Lnk 10 177 mX10_areTwo := Or.inl (gd 535 rfl rfl)
set_option maxRecDepth 20000 in
theorem lk_10_180 : Lnk 10 180 mX2_firstNearer := Or.inl (gd 539 rfl rfl)
set_option maxRecDepth 20000 in
theorem lk_10_184 : Lnk 10 184 mX2_verdict := Or.inl (gd 543 rfl rfl)
set_option maxRecDepth 20000 in
theorem lk_2_40 : Lnk 2 40 mX2_verdictBy := Or.inl (gd 547 rfl rfl)
set_option maxRecDepth 20000 in
theorem lk_2_61 : Lnk 2 61 mX2_firstNearer := Or.inl (gd 551 rfl rfl)
set_option maxRecDepth 20000 in
theorem lk_2_64 : Lnk 2 64 mX0_canTrade := Or.inl (gd 552 rfl rfl)
set_option maxRecDepth 20000 in
theorem lk_0_54 : Lnk 0 54 mX0_sellsTo := Or.inl (gd 556 rfl rfl)
set_option maxRecDepth 20000 in
theorem lk_10_187 : Lnk 10 187 mX0_gain := Or.inl (gd 560 rfl rfl)
set_option maxRecDepth 20000 in
theorem lk_12_57 : Lnk 12 57 mX10_pairs := Or.inl (gd 564 rfl rfl)
set_option maxRecDepth 20000 in
theorem lk_10_190 : Lnk 10 190 mX2_bindingPairs := Or.inl (gd 568 rfl rfl)
set_option maxRecDepth 20000 in
theorem lk_12_61 : Lnk 12 61 mX10_once := Or.inl (gd 572 rfl rfl)
set_option maxRecDepth 20000 in
theorem lk_10_193 : Lnk 10 193 mX3_solve := Or.inl (gd 576 rfl rfl)
set_option maxRecDepth 20000 in
theorem lk_3_47 : Lnk 3 47 mX2_verdict := Or.inl (gd 580 rfl rfl)
set_option maxRecDepth 20000 in
theorem lk_3_51 : Lnk 3 51 mX3_choose := Or.inl (gd 581 rfl rfl)
set_option maxRecDepth 20000 in
theorem lk_3_55 : Lnk 3 55 mX3_keepIfBetter := Or.inl (gd 585 rfl rfl)
set_option maxRecDepth 20000 in
theorem lk_3_59 : Lnk 3 59 mX0_gain := Or.inl (gd 592 rfl rfl)
set_option maxRecDepth 20000 in
theorem lk_12_65 : Lnk 12 65 mX10_worth := Or.inl (gd 593 rfl rfl)
set_option maxRecDepth 20000 in
theorem lk_12_69 : Lnk 12 69 mX10_judged := Or.inl (gd 597 rfl rfl)
set_option maxRecDepth 20000 in
theorem lk_10_205 : Lnk 10 205 mX8_judge := Or.inl (gd 601 rfl rfl)
set_option maxRecDepth 20000 in
theorem lk_8_57 : Lnk 8 57 mX8_strikes := Or.inl (gd 605 rfl rfl)
set_option maxRecDepth 20000 in
theorem lk_8_68 : Lnk 8 68 mX2_verdict := Or.inl (gd 609 rfl rfl)
set_option maxRecDepth 20000 in
theorem lk_8_72 : Lnk 8 72 mX0_gain := Or.inl (gd 610 rfl rfl)
set_option maxRecDepth 20000 in
theorem lk_8_61 : Lnk 8 61 mX8_moves := Or.inl (gd 611 rfl rfl)
set_option maxRecDepth 20000 in
theorem lk_8_64 : Lnk 8 64 mX2_lawfulStep := Or.inl (gd 615 rfl rfl)
set_option maxRecDepth 20000 in
theorem lk_10_209 : Lnk 10 209 mX8_result := Or.inl (gd 616 rfl rfl)
set_option maxRecDepth 20000 in
theorem lk_12_73 : Lnk 12 73 mX10_ends := Or.inl (gd 620 rfl rfl)
set_option maxRecDepth 20000 in
theorem lk_12_77 : Lnk 12 77 mX10_comes := Or.inl (gd 624 rfl rfl)
set_option maxRecDepth 20000 in
theorem lk_10_213 : Lnk 10 213 mX9_search := Or.inl (gd 628 rfl rfl)
set_option maxRecDepth 20000 in
theorem lk_9_35 : Lnk 9 35 mX0_canTrade := Or.inl (gd 632 rfl rfl)
set_option maxRecDepth 20000 in
theorem lk_9_50 : Lnk 9 50 mJ7_fill_53178 := Or.inl (gd 634 rfl rfl)
set_option maxRecDepth 20000 in
theorem lk_9_56 : Lnk 9 56 mX9_queueGoals := Or.inl (gd 637 rfl rfl)
set_option maxRecDepth 20000 in
theorem lk_9_71 : Lnk 9 71 mX2_verdict := Or.inl (gd 641 rfl rfl)
set_option maxRecDepth 20000 in
theorem lk_9_75 : Lnk 9 75 mX9_isOpen := Or.inl (gd 642 rfl rfl)
set_option maxRecDepth 20000 in
theorem lk_9_83 : Lnk 9 83 mX2_mayStand := Or.inl (gd 646 rfl rfl)
set_option maxRecDepth 20000 in
theorem lk_9_79 : Lnk 9 79 mX9_enqueue := Or.inl (gd 647 rfl rfl)
set_option maxRecDepth 20000 in
theorem lk_9_60 : Lnk 9 60 mX9_queueNeighbours := Or.inl (gd 651 rfl rfl)
set_option maxRecDepth 20000 in
theorem lk_12_81 : Lnk 12 81 mX10_way := Or.inl (gd 656 rfl rfl)
set_option maxRecDepth 20000 in
theorem lk_10_216 : Lnk 10 216 mX9_direction := Or.inl (gd 660 rfl rfl)
set_option maxRecDepth 20000 in
theorem lk_9_63 : Lnk 9 63 mX9_leastDirection := Or.inl (gd 664 rfl rfl)
set_option maxRecDepth 20000 in
theorem lk_12_85 : Lnk 12 85 mX10_hinders := Or.inl (gd 668 rfl rfl)
set_option maxRecDepth 20000 in
theorem lk_10_219 : Lnk 10 219 mX2_hindered := Or.inl (gd 672 rfl rfl)
set_option maxRecDepth 20000 in
theorem lk_2_50 : Lnk 2 50 mX2_isHinderedBy := Or.inl (gd 676 rfl rfl)
set_option maxRecDepth 20000 in
theorem lk_2_57 : Lnk 2 57 mX2_verdict := Or.inl (gd 680 rfl rfl)
set_option maxRecDepth 20000 in
theorem lk_2_54 : Lnk 2 54 mX0_gain := Or.inl (gd 681 rfl rfl)
set_option maxRecDepth 20000 in
theorem lk_12_89 : Lnk 12 89 mX10_post := Or.inl (gd 682 rfl rfl)
set_option maxRecDepth 20000 in
theorem lk_10_223 : Lnk 10 223 mX10_isSpot := Or.inl (gd 686 rfl rfl)
set_option maxRecDepth 20000 in
theorem lk_10_226 : Lnk 10 226 mX4_isFull := Or.inl (gd 689 rfl rfl)
set_option maxRecDepth 20000 in
theorem lk_10_227 : Lnk 10 227 mX4_add := Or.inl (gd 693 rfl rfl)
set_option maxRecDepth 20000 in
theorem lk_4_19 : Lnk 4 19 mX4_isFull := Or.inl (gd 697 rfl rfl)
set_option maxRecDepth 20000 in
theorem lk_12_93 : Lnk 12 93 mX10_gone := Or.inl (gd 698 rfl rfl)
set_option maxRecDepth 20000 in
theorem lk_10_229 : Lnk 10 229 mX4_clear := Or.inl (gd 702 rfl rfl)
set_option maxRecDepth 20000 in
theorem lk_12_97 : Lnk 12 97 mX10_sees := Or.inl (gd 706 rfl rfl)
set_option maxRecDepth 20000 in
theorem lk_10_230 : Lnk 10 230 mX2_square := Or.inl (gd 710 rfl rfl)
set_option maxRecDepth 20000 in
theorem lk_10_233 : Lnk 10 233 mX4_pairsAt := Or.inl (gd 711 rfl rfl)
set_option maxRecDepth 20000 in
theorem lk_12_101 : Lnk 12 101 mX10_more := Or.inl (gd 716 rfl rfl)
set_option maxRecDepth 20000 in
theorem lk_10_236 : Lnk 10 236 mX4_bestSpot := Or.inl (gd 720 rfl rfl)
set_option maxRecDepth 20000 in
theorem lk_4_27 : Lnk 4 27 mX4_seenFrom := Or.inl (gd 724 rfl rfl)
set_option maxRecDepth 20000 in
theorem lk_10_239 : Lnk 10 239 mX4_seenFrom := Or.inl (gd 728 rfl rfl)
set_option maxRecDepth 20000 in
theorem lk_12_105 : Lnk 12 105 mX10_both := Or.inl (gd 729 rfl rfl)
set_option maxRecDepth 20000 in
theorem lk_10_242 : Lnk 10 242 mX4_has := Or.inl (gd 733 rfl rfl)
set_option maxRecDepth 20000 in
theorem lk_10_245 : Lnk 10 245 mX4_commonSpots := Or.inl (gd 737 rfl rfl)
set_option maxRecDepth 20000 in
theorem lk_4_30 : Lnk 4 30 mX4_isCommon := Or.inl (gd 741 rfl rfl)
set_option maxRecDepth 20000 in
theorem lk_10_249 : Lnk 10 249 mX4_commonSpot := Or.inl (gd 745 rfl rfl)
set_option maxRecDepth 20000 in
theorem lk_12_109 : Lnk 12 109 mX10_broker := Or.inl (gd 749 rfl rfl)
set_option maxRecDepth 20000 in
theorem lk_10_253 : Lnk 10 253 mX6_seek := Or.inl (gd 753 rfl rfl)
set_option maxRecDepth 20000 in
theorem lk_6_47 : Lnk 6 47 mX2_firstNearer := Or.inl (gd 757 rfl rfl)
set_option maxRecDepth 20000 in
theorem lk_6_51 : Lnk 6 51 mX6_profitOn := Or.inl (gd 758 rfl rfl)
set_option maxRecDepth 20000 in
theorem lk_6_55 : Lnk 6 55 mX2_square := Or.inl (gd 762 rfl rfl)
set_option maxRecDepth 20000 in
theorem lk_6_58 : Lnk 6 58 mJ7_fill_53178 := Or.inl (gd 763 rfl rfl)
set_option maxRecDepth 20000 in
theorem lk_6_77 : Lnk 6 77 mX6_ask := Or.inl (gd 765 rfl rfl)
set_option maxRecDepth 20000 in
theorem lk_6_81 : Lnk 6 81 mX6_margins := Or.inl (gd 770 rfl rfl)
set_option maxRecDepth 20000 in
theorem lk_12_113 : Lnk 12 113 mX10_other := Or.inl (gd 774 rfl rfl)
set_option maxRecDepth 20000 in
theorem lk_10_261 : Lnk 10 261 mX2_bestDue := Or.inl (gd 778 rfl rfl)
set_option maxRecDepth 20000 in
theorem lk_2_47 : Lnk 2 47 mX2_bindingPairs := Or.inl (gd 782 rfl rfl)
set_option maxRecDepth 20000 in
theorem lk_12_117 : Lnk 12 117 mX10_sheet := Or.inl (gd 783 rfl rfl)
set_option maxRecDepth 20000 in
theorem lk_10_264 : Lnk 10 264 mX10_isForm := Or.inl (gd 787 rfl rfl)
set_option maxRecDepth 20000 in
theorem lk_10_267 : Lnk 10 267 mX5_renew := Or.inl (gd 790 rfl rfl)
set_option maxRecDepth 20000 in
theorem lk_5_26 : Lnk 5 26 mJ7_fill_53178 := Or.inl (gd 794 rfl rfl)
set_option maxRecDepth 20000 in
theorem lk_12_121 : Lnk 12 121 mX10_lose := Or.inl (gd 795 rfl rfl)
set_option maxRecDepth 20000 in
theorem lk_12_125 : Lnk 12 125 mX10_put := Or.inl (gd 799 rfl rfl)
set_option maxRecDepth 20000 in
theorem lk_10_271 : Lnk 10 271 mX5_findingAt := Or.inl (gd 803 rfl rfl)
set_option maxRecDepth 20000 in
theorem lk_10_274 : Lnk 10 274 mX5_store := Or.inl (gd 807 rfl rfl)
set_option maxRecDepth 20000 in
theorem lk_12_130 : Lnk 12 130 mX10_get := Or.inl (gd 811 rfl rfl)
set_option maxRecDepth 20000 in
theorem lk_12_134 : Lnk 12 134 mX10_copy := Or.inl (gd 816 rfl rfl)
set_option maxRecDepth 20000 in
theorem lk_10_281 : Lnk 10 281 mX5_hasRange := Or.inl (gd 820 rfl rfl)
set_option maxRecDepth 20000 in
theorem lk_12_139 : Lnk 12 139 mX10_write := Or.inl (gd 825 rfl rfl)
set_option maxRecDepth 20000 in
theorem lk_12_143 : Lnk 12 143 mX10_count := Or.inl (gd 830 rfl rfl)
set_option maxRecDepth 20000 in
theorem lk_12_147 : Lnk 12 147 mX10_digest := Or.inl (gd 834 rfl rfl)
set_option maxRecDepth 20000 in
theorem lk_10_300 : Lnk 10 300 mX10_count := Or.inl (gd 839 rfl rfl)
set_option maxRecDepth 20000 in
theorem lk_10_303 : Lnk 10 303 mX10_mixed := Or.inl (gd 840 rfl rfl)
set_option maxRecDepth 20000 in
theorem lk_10_307 : Lnk 10 307 mX10_mixedPerson := Or.inl (gd 844 rfl rfl)
set_option maxRecDepth 20000 in
theorem lk_10_313 : Lnk 10 313 mX10_person := Or.inl (gd 848 rfl rfl)
set_option maxRecDepth 20000 in
theorem lk_10_310 : Lnk 10 310 mX10_pairs := Or.inl (gd 849 rfl rfl)
set_option maxRecDepth 20000 in
theorem lk_12_12 : Lnk 12 12 mX11_init := Or.inl (gd 852 rfl rfl)
set_option maxRecDepth 20000 in
theorem lk_12_17 : Lnk 12 17 mX11_type := Or.inl (gd 953 rfl rfl)
set_option maxRecDepth 20000 in
theorem lk_11_86 : Lnk 11 86 mX11_in := Or.inl (gd 957 rfl rfl)
set_option maxRecDepth 20000 in
theorem lk_11_90 : Lnk 11 90 mX11_limit := Or.inl (gd 960 rfl rfl)
set_option maxRecDepth 20000 in
theorem lk_11_94 : Lnk 11 94 mX11_stands := Or.inl (gd 963 rfl rfl)
set_option maxRecDepth 20000 in
theorem lk_11_97 : Lnk 11 97 mX11_peopleFault := Or.inl (gd 967 rfl rfl)
set_option maxRecDepth 20000 in
theorem lk_11_116 : Lnk 11 116 mX11_reads := Or.inl (gd 971 rfl rfl)
set_option maxRecDepth 20000 in
theorem lk_11_105 : Lnk 11 105 mX11_byteAt := Or.inl (gd 975 rfl rfl)
set_option maxRecDepth 20000 in
theorem lk_11_113 : Lnk 11 113 mX11_pairAt := Or.inl (gd 979 rfl rfl)
set_option maxRecDepth 20000 in
theorem lk_11_109 : Lnk 11 109 mX11_isFigure := Or.inl (gd 983 rfl rfl)
set_option maxRecDepth 20000 in
theorem lk_12_22 : Lnk 12 22 mX11_wipe := Or.inl (gd 987 rfl rfl)
set_option maxRecDepth 20000 in
theorem lk_12_26 : Lnk 12 26 mX11_fault := Or.inl (gd 991 rfl rfl)
set_option maxRecDepth 20000 in
theorem lk_11_128 : Lnk 11 128 mX11_faultOf := Or.inl (gd 995 rfl rfl)
set_option maxRecDepth 20000 in
theorem lk_11_125 : Lnk 11 125 mX11_fairFault := Or.inl (gd 999 rfl rfl)
set_option maxRecDepth 20000 in
theorem lk_12_30 : Lnk 12 30 mX11_set := Or.inl (gd 1003 rfl rfl)
set_option maxRecDepth 20000 in
theorem lk_12_34 : Lnk 12 34 mX11_person := Or.inl (gd 1007 rfl rfl)
set_option maxRecDepth 20000 in
theorem lk_11_131 : Lnk 11 131 mX11_isPerson := Or.inl (gd 1011 rfl rfl)
set_option maxRecDepth 20000 in
theorem lk_11_119 : Lnk 11 119 mX11_peopleNow := Or.inl (gd 1015 rfl rfl)
set_option maxRecDepth 20000 in
theorem lk_11_134 : Lnk 11 134 mX11_personOf := Or.inl (gd 1019 rfl rfl)
set_option maxRecDepth 20000 in
theorem lk_12_38 : Lnk 12 38 mX11_step := Or.inl (gd 1023 rfl rfl)
set_option maxRecDepth 20000 in
theorem lk_11_150 : Lnk 11 150 mX11_steps := Or.inl (gd 1027 rfl rfl)
set_option maxRecDepth 20000 in
theorem lk_11_140 : Lnk 11 140 mX11_lays := Or.inl (gd 1031 rfl rfl)
set_option maxRecDepth 20000 in
theorem lk_11_143 : Lnk 11 143 mX11_stepTo := Or.inl (gd 1035 rfl rfl)
set_option maxRecDepth 20000 in
theorem lk_11_146 : Lnk 11 146 mX11_isFree := Or.inl (gd 1038 rfl rfl)
set_option maxRecDepth 20000 in
theorem lk_11_137 : Lnk 11 137 mX11_awayBy := Or.inl (gd 1042 rfl rfl)
set_option maxRecDepth 20000 in
theorem lk_12_42 : Lnk 12 42 mX11_read := Or.inl (gd 1045 rfl rfl)
set_option maxRecDepth 20000 in
theorem lk_11_153 : Lnk 11 153 mX11_isSheet := Or.inl (gd 1049 rfl rfl)
set_option maxRecDepth 20000 in
theorem lk_11_156 : Lnk 11 156 mX11_meets := Or.inl (gd 1052 rfl rfl)
set_option maxRecDepth 20000 in
theorem lk_12_47 : Lnk 12 47 mX11_home := Or.inl (gd 1056 rfl rfl)
set_option maxRecDepth 20000 in
theorem lk_12_51 : Lnk 12 51 mX11_away := Or.inl (gd 1060 rfl rfl)
set_option maxRecDepth 20000 in
theorem lk_12_56 : Lnk 12 56 mX11_binds := Or.inl (gd 1064 rfl rfl)
set_option maxRecDepth 20000 in
theorem lk_11_173 : Lnk 11 173 mX11_areTwo := Or.inl (gd 1068 rfl rfl)
set_option maxRecDepth 20000 in
theorem lk_11_169 : Lnk 11 169 mX11_bindsBy := Or.inl (gd 1072 rfl rfl)
set_option maxRecDepth 20000 in
theorem lk_11_162 : Lnk 11 162 mX11_nearer := Or.inl (gd 1076 rfl rfl)
set_option maxRecDepth 20000 in
theorem lk_11_166 : Lnk 11 166 mX11_worthOf := Or.inl (gd 1080 rfl rfl)
set_option maxRecDepth 20000 in
theorem lk_11_159 : Lnk 11 159 mX11_buyer := Or.inl (gd 1084 rfl rfl)
set_option maxRecDepth 20000 in
theorem lk_11_176 : Lnk 11 176 mX11_isBound := Or.inl (gd 1088 rfl rfl)
set_option maxRecDepth 20000 in
theorem lk_12_60 : Lnk 12 60 mX11_pairs := Or.inl (gd 1092 rfl rfl)
set_option maxRecDepth 20000 in
theorem lk_11_182 : Lnk 11 182 mX11_pairsNow := Or.inl (gd 1096 rfl rfl)
set_option maxRecDepth 20000 in
theorem lk_11_179 : Lnk 11 179 mX11_pairsBy := Or.inl (gd 1100 rfl rfl)
set_option maxRecDepth 20000 in
theorem lk_12_64 : Lnk 12 64 mX11_once := Or.inl (gd 1104 rfl rfl)
set_option maxRecDepth 20000 in
theorem lk_11_192 : Lnk 11 192 mX11_onceOf := Or.inl (gd 1108 rfl rfl)
set_option maxRecDepth 20000 in
theorem lk_11_189 : Lnk 11 189 mX11_laysOnce := Or.inl (gd 1112 rfl rfl)
set_option maxRecDepth 20000 in
theorem lk_11_185 : Lnk 11 185 mX11_isIn := Or.inl (gd 1116 rfl rfl)
set_option maxRecDepth 20000 in
theorem lk_12_68 : Lnk 12 68 mX11_worth := Or.inl (gd 1120 rfl rfl)
set_option maxRecDepth 20000 in
theorem lk_11_195 : Lnk 11 195 mX11_worthNow := Or.inl (gd 1124 rfl rfl)
set_option maxRecDepth 20000 in
theorem lk_12_72 : Lnk 12 72 mX11_judged := Or.inl (gd 1128 rfl rfl)
set_option maxRecDepth 20000 in
theorem lk_11_210 : Lnk 11 210 mX11_judgedOf := Or.inl (gd 1132 rfl rfl)
set_option maxRecDepth 20000 in
theorem lk_11_207 : Lnk 11 207 mX11_judges := Or.inl (gd 1136 rfl rfl)
set_option maxRecDepth 20000 in
theorem lk_12_76 : Lnk 12 76 mX11_ends := Or.inl (gd 1140 rfl rfl)
set_option maxRecDepth 20000 in
theorem lk_11_213 : Lnk 11 213 mX11_endsOf := Or.inl (gd 1144 rfl rfl)
set_option maxRecDepth 20000 in
theorem lk_12_80 : Lnk 12 80 mX11_comes := Or.inl (gd 1148 rfl rfl)
set_option maxRecDepth 20000 in
theorem lk_11_220 : Lnk 11 220 mX11_comesOf := Or.inl (gd 1152 rfl rfl)
set_option maxRecDepth 20000 in
theorem lk_11_216 : Lnk 11 216 mX11_laysFar := Or.inl (gd 1156 rfl rfl)
set_option maxRecDepth 20000 in
theorem lk_12_84 : Lnk 12 84 mX11_way := Or.inl (gd 1160 rfl rfl)
set_option maxRecDepth 20000 in
theorem lk_12_88 : Lnk 12 88 mX11_hinders := Or.inl (gd 1164 rfl rfl)
set_option maxRecDepth 20000 in
theorem lk_11_223 : Lnk 11 223 mX11_hindersOf := Or.inl (gd 1168 rfl rfl)
set_option maxRecDepth 20000 in
theorem lk_12_92 : Lnk 12 92 mX11_post := Or.inl (gd 1172 rfl rfl)
set_option maxRecDepth 20000 in
theorem lk_12_96 : Lnk 12 96 mX11_gone := Or.inl (gd 1176 rfl rfl)
set_option maxRecDepth 20000 in
theorem lk_12_100 : Lnk 12 100 mX11_sees := Or.inl (gd 1180 rfl rfl)
set_option maxRecDepth 20000 in
theorem lk_11_232 : Lnk 11 232 mX11_seesNow := Or.inl (gd 1184 rfl rfl)
set_option maxRecDepth 20000 in
theorem lk_11_229 : Lnk 11 229 mX11_isDue := Or.inl (gd 1188 rfl rfl)
set_option maxRecDepth 20000 in
theorem lk_12_104 : Lnk 12 104 mX11_more := Or.inl (gd 1192 rfl rfl)
set_option maxRecDepth 20000 in
theorem lk_11_235 : Lnk 11 235 mX11_moreOf := Or.inl (gd 1196 rfl rfl)
set_option maxRecDepth 20000 in
theorem lk_12_108 : Lnk 12 108 mX11_both := Or.inl (gd 1200 rfl rfl)
set_option maxRecDepth 20000 in
theorem lk_12_112 : Lnk 12 112 mX11_broker := Or.inl (gd 1204 rfl rfl)
set_option maxRecDepth 20000 in
theorem lk_11_241 : Lnk 11 241 mX11_brokerOf := Or.inl (gd 1208 rfl rfl)
set_option maxRecDepth 20000 in
theorem lk_11_238 : Lnk 11 238 mX11_brokes := Or.inl (gd 1212 rfl rfl)
set_option maxRecDepth 20000 in
theorem lk_12_116 : Lnk 12 116 mX11_other := Or.inl (gd 1216 rfl rfl)
set_option maxRecDepth 20000 in
theorem lk_11_244 : Lnk 11 244 mX11_otherOf := Or.inl (gd 1220 rfl rfl)
set_option maxRecDepth 20000 in
theorem lk_12_120 : Lnk 12 120 mX11_sheet := Or.inl (gd 1224 rfl rfl)
set_option maxRecDepth 20000 in
theorem lk_12_124 : Lnk 12 124 mX11_lose := Or.inl (gd 1228 rfl rfl)
set_option maxRecDepth 20000 in
theorem lk_12_129 : Lnk 12 129 mX11_put := Or.inl (gd 1232 rfl rfl)
set_option maxRecDepth 20000 in
theorem lk_11_250 : Lnk 11 250 mX11_lacks := Or.inl (gd 1236 rfl rfl)
set_option maxRecDepth 20000 in
theorem lk_11_253 : Lnk 11 253 mX11_keep := Or.inl (gd 1240 rfl rfl)
set_option maxRecDepth 20000 in
theorem lk_12_133 : Lnk 12 133 mX11_get := Or.inl (gd 1244 rfl rfl)
set_option maxRecDepth 20000 in
theorem lk_12_138 : Lnk 12 138 mX11_copy := Or.inl (gd 1249 rfl rfl)
set_option maxRecDepth 20000 in
theorem lk_12_142 : Lnk 12 142 mX11_write := Or.inl (gd 1253 rfl rfl)
set_option maxRecDepth 20000 in
theorem lk_12_146 : Lnk 12 146 mX11_count := Or.inl (gd 1257 rfl rfl)
set_option maxRecDepth 20000 in
theorem lk_11_258 : Lnk 11 258 mX11_partsNow := Or.inl (gd 1261 rfl rfl)
set_option maxRecDepth 20000 in
theorem lk_12_151 : Lnk 12 151 mX11_digest := Or.inl (gd 1265 rfl rfl)
set_option maxRecDepth 20000 in
theorem lk_11_265 : Lnk 11 265 mX11_count := Or.inl (gd 1271 rfl rfl)
set_option maxRecDepth 20000 in
theorem lk_10_23 : Lnk 10 23 mX0_init := Or.inr ⟨"ElevenPaces", nd 109 rfl rfl⟩
set_option maxRecDepth 20000 in
theorem lk_10_39 : Lnk 10 39 mX1_init := Or.inr ⟨"ElevenPaces", nd 173 rfl rfl⟩
set_option maxRecDepth 20000 in
theorem lk_10_69 : Lnk 10 69 mX4_init := Or.inr ⟨"ElevenPaces", nd 278 rfl rfl⟩
set_option maxRecDepth 20000 in
theorem lk_10_87 : Lnk 10 87 mX5_init := Or.inr ⟨"ElevenPaces", nd 320 rfl rfl⟩
set_option maxRecDepth 20000 in
theorem lk_0_62 : Lnk 0 62 mX10_figure := Or.inr ⟨"ElevenPaces", nd 420 rfl rfl⟩
set_option maxRecDepth 20000 in
theorem lk_1_43 : Lnk 1 43 mX10_figure := Or.inr ⟨"ElevenPaces", nd 443 rfl rfl⟩
set_option maxRecDepth 20000 in
theorem lk_1_46 : Lnk 1 46 mX10_isDirection := Or.inr ⟨"ElevenPaces", nd 444 rfl rfl⟩
set_option maxRecDepth 20000 in
theorem lk_2_19 : Lnk 2 19 mX10_neighbour := Or.inr ⟨"ElevenPaces", nd 489 rfl rfl⟩
set_option maxRecDepth 20000 in
theorem lk_2_37 : Lnk 2 37 mX10_between := Or.inr ⟨"ElevenPaces", nd 504 rfl rfl⟩
set_option maxRecDepth 20000 in
theorem lk_9_67 : Lnk 9 67 mX10_neighbour := Or.inr ⟨"ElevenPaces", nd 655 rfl rfl⟩
set_option maxRecDepth 20000 in
theorem lk_4_23 : Lnk 4 23 mX10_between := Or.inr ⟨"ElevenPaces", nd 715 rfl rfl⟩
set_option maxRecDepth 20000 in
theorem lk_6_64 : Lnk 6 64 mX10_between := Or.inr ⟨"ElevenPaces", nd 764 rfl rfl⟩
def FLok (q : Nat × Nat × Nat × Nat) : Prop := ∃ r : vw_C, vwCl[q.2.2.1]? = some r ∧ q.2.2.2 < r.2.2 ∧ (Cond.fieldLink (Rcls q.1) q.2.1 (r.2.1 q.2.2.2).1 (r.2.1 q.2.2.2).2.1 (r.2.1 q.2.2.2).2.2.1 ∈ lw_good ∨ ∃ host : String, Cond.fieldLinkNest (Rcls q.1) q.2.1 (r.2.1 q.2.2.2).1 (r.2.1 q.2.2.2).2.1 (r.2.1 q.2.2.2).2.2.1 host ∈ lw_nest)
def FL0 : List (Nat × Nat × Nat × Nat) := [(7, 15, 7, 0), (7, 21, 7, 1), (0, 9, 0, 0), (0, 15, 0, 1), (0, 18, 0, 2), (0, 21, 0, 3), (0, 24, 0, 4), (0, 27, 0, 5), (0, 31, 0, 6), (2, 15, 2, 0), (2, 9, 2, 1), (1, 9, 1, 0), (1, 15, 1, 1), (1, 19, 1, 2), (1, 22, 1, 3)]
set_option maxRecDepth 20000 in
theorem FL0_ok : ∀ q ∈ FL0, FLok q := List.forall_mem_cons.mpr ⟨⟨_, rfl, by decide, Or.inl (gd 99 rfl rfl)⟩, List.forall_mem_cons.mpr ⟨⟨_, rfl, by decide, Or.inl (gd 100 rfl rfl)⟩, List.forall_mem_cons.mpr ⟨⟨_, rfl, by decide, Or.inl (gd 113 rfl rfl)⟩, List.forall_mem_cons.mpr ⟨⟨_, rfl, by decide, Or.inl (gd 116 rfl rfl)⟩, List.forall_mem_cons.mpr ⟨⟨_, rfl, by decide, Or.inl (gd 119 rfl rfl)⟩, List.forall_mem_cons.mpr ⟨⟨_, rfl, by decide, Or.inl (gd 122 rfl rfl)⟩, List.forall_mem_cons.mpr ⟨⟨_, rfl, by decide, Or.inl (gd 123 rfl rfl)⟩, List.forall_mem_cons.mpr ⟨⟨_, rfl, by decide, Or.inl (gd 130 rfl rfl)⟩, List.forall_mem_cons.mpr ⟨⟨_, rfl, by decide, Or.inl (gd 136 rfl rfl)⟩, List.forall_mem_cons.mpr ⟨⟨_, rfl, by decide, Or.inl (gd 159 rfl rfl)⟩, List.forall_mem_cons.mpr ⟨⟨_, rfl, by decide, Or.inl (gd 164 rfl rfl)⟩, List.forall_mem_cons.mpr ⟨⟨_, rfl, by decide, Or.inl (gd 177 rfl rfl)⟩, List.forall_mem_cons.mpr ⟨⟨_, rfl, by decide, Or.inl (gd 179 rfl rfl)⟩, List.forall_mem_cons.mpr ⟨⟨_, rfl, by decide, Or.inl (gd 181 rfl rfl)⟩, List.forall_mem_cons.mpr ⟨⟨_, rfl, by decide, Or.inl (gd 183 rfl rfl)⟩, fun _ h => absurd h List.not_mem_nil⟩⟩⟩⟩⟩⟩⟩⟩⟩⟩⟩⟩⟩⟩⟩
def FL1 : List (Nat × Nat × Nat × Nat) := [(1, 26, 1, 4), (8, 29, 8, 0), (8, 9, 8, 1), (8, 15, 8, 2), (8, 19, 8, 3), (8, 23, 8, 4), (8, 26, 8, 5), (3, 29, 3, 0), (3, 9, 3, 1), (3, 15, 3, 2), (3, 19, 3, 3), (3, 22, 3, 4), (3, 26, 3, 5), (9, 25, 9, 0), (9, 9, 9, 1)]
set_option maxRecDepth 20000 in
theorem FL1_ok : ∀ q ∈ FL1, FLok q := List.forall_mem_cons.mpr ⟨⟨_, rfl, by decide, Or.inl (gd 186 rfl rfl)⟩, List.forall_mem_cons.mpr ⟨⟨_, rfl, by decide, Or.inl (gd 206 rfl rfl)⟩, List.forall_mem_cons.mpr ⟨⟨_, rfl, by decide, Or.inl (gd 207 rfl rfl)⟩, List.forall_mem_cons.mpr ⟨⟨_, rfl, by decide, Or.inl (gd 209 rfl rfl)⟩, List.forall_mem_cons.mpr ⟨⟨_, rfl, by decide, Or.inl (gd 210 rfl rfl)⟩, List.forall_mem_cons.mpr ⟨⟨_, rfl, by decide, Or.inl (gd 211 rfl rfl)⟩, List.forall_mem_cons.mpr ⟨⟨_, rfl, by decide, Or.inl (gd 212 rfl rfl)⟩, List.forall_mem_cons.mpr ⟨⟨_, rfl, by decide, Or.inl (gd 232 rfl rfl)⟩, List.forall_mem_cons.mpr ⟨⟨_, rfl, by decide, Or.inl (gd 233 rfl rfl)⟩, List.forall_mem_cons.mpr ⟨⟨_, rfl, by decide, Or.inl (gd 234 rfl rfl)⟩, List.forall_mem_cons.mpr ⟨⟨_, rfl, by decide, Or.inl (gd 235 rfl rfl)⟩, List.forall_mem_cons.mpr ⟨⟨_, rfl, by decide, Or.inl (gd 237 rfl rfl)⟩, List.forall_mem_cons.mpr ⟨⟨_, rfl, by decide, Or.inl (gd 239 rfl rfl)⟩, List.forall_mem_cons.mpr ⟨⟨_, rfl, by decide, Or.inl (gd 260 rfl rfl)⟩, List.forall_mem_cons.mpr ⟨⟨_, rfl, by decide, Or.inl (gd 261 rfl rfl)⟩, fun _ h => absurd h List.not_mem_nil⟩⟩⟩⟩⟩⟩⟩⟩⟩⟩⟩⟩⟩⟩⟩
def FL2 : List (Nat × Nat × Nat × Nat) := [(9, 15, 9, 2), (9, 18, 9, 3), (9, 21, 9, 4), (4, 9, 4, 0), (4, 15, 4, 1), (6, 29, 6, 0), (6, 9, 6, 1), (6, 15, 6, 2), (6, 19, 6, 3), (6, 22, 6, 4), (6, 26, 6, 5), (5, 9, 5, 0), (5, 15, 5, 1), (5, 19, 5, 2), (5, 23, 5, 3)]
set_option maxRecDepth 20000 in
theorem FL2_ok : ∀ q ∈ FL2, FLok q := List.forall_mem_cons.mpr ⟨⟨_, rfl, by decide, Or.inl (gd 262 rfl rfl)⟩, List.forall_mem_cons.mpr ⟨⟨_, rfl, by decide, Or.inl (gd 263 rfl rfl)⟩, List.forall_mem_cons.mpr ⟨⟨_, rfl, by decide, Or.inl (gd 264 rfl rfl)⟩, List.forall_mem_cons.mpr ⟨⟨_, rfl, by decide, Or.inl (gd 282 rfl rfl)⟩, List.forall_mem_cons.mpr ⟨⟨_, rfl, by decide, Or.inl (gd 283 rfl rfl)⟩, List.forall_mem_cons.mpr ⟨⟨_, rfl, by decide, Or.inl (gd 296 rfl rfl)⟩, List.forall_mem_cons.mpr ⟨⟨_, rfl, by decide, Or.inl (gd 297 rfl rfl)⟩, List.forall_mem_cons.mpr ⟨⟨_, rfl, by decide, Or.inl (gd 298 rfl rfl)⟩, List.forall_mem_cons.mpr ⟨⟨_, rfl, by decide, Or.inl (gd 299 rfl rfl)⟩, List.forall_mem_cons.mpr ⟨⟨_, rfl, by decide, Or.inl (gd 300 rfl rfl)⟩, List.forall_mem_cons.mpr ⟨⟨_, rfl, by decide, Or.inl (gd 302 rfl rfl)⟩, List.forall_mem_cons.mpr ⟨⟨_, rfl, by decide, Or.inl (gd 324 rfl rfl)⟩, List.forall_mem_cons.mpr ⟨⟨_, rfl, by decide, Or.inl (gd 326 rfl rfl)⟩, List.forall_mem_cons.mpr ⟨⟨_, rfl, by decide, Or.inl (gd 328 rfl rfl)⟩, List.forall_mem_cons.mpr ⟨⟨_, rfl, by decide, Or.inl (gd 330 rfl rfl)⟩, fun _ h => absurd h List.not_mem_nil⟩⟩⟩⟩⟩⟩⟩⟩⟩⟩⟩⟩⟩⟩⟩
def FL3 : List (Nat × Nat × Nat × Nat) := [(10, 14, 10, 0), (10, 18, 10, 1), (10, 24, 10, 2), (10, 33, 10, 3), (10, 40, 10, 4), (10, 49, 10, 5), (10, 56, 10, 6), (10, 63, 10, 7), (10, 70, 10, 8), (10, 77, 10, 9), (10, 83, 10, 10), (10, 88, 10, 11), (11, 7, 11, 0), (11, 13, 11, 1), (11, 16, 11, 2)]
set_option maxRecDepth 20000 in
theorem FL3_ok : ∀ q ∈ FL3, FLok q := List.forall_mem_cons.mpr ⟨⟨_, rfl, by decide, Or.inl (gd 341 rfl rfl)⟩, List.forall_mem_cons.mpr ⟨⟨_, rfl, by decide, Or.inl (gd 342 rfl rfl)⟩, List.forall_mem_cons.mpr ⟨⟨_, rfl, by decide, Or.inl (gd 343 rfl rfl)⟩, List.forall_mem_cons.mpr ⟨⟨_, rfl, by decide, Or.inl (gd 344 rfl rfl)⟩, List.forall_mem_cons.mpr ⟨⟨_, rfl, by decide, Or.inl (gd 345 rfl rfl)⟩, List.forall_mem_cons.mpr ⟨⟨_, rfl, by decide, Or.inl (gd 346 rfl rfl)⟩, List.forall_mem_cons.mpr ⟨⟨_, rfl, by decide, Or.inl (gd 347 rfl rfl)⟩, List.forall_mem_cons.mpr ⟨⟨_, rfl, by decide, Or.inl (gd 348 rfl rfl)⟩, List.forall_mem_cons.mpr ⟨⟨_, rfl, by decide, Or.inl (gd 349 rfl rfl)⟩, List.forall_mem_cons.mpr ⟨⟨_, rfl, by decide, Or.inl (gd 350 rfl rfl)⟩, List.forall_mem_cons.mpr ⟨⟨_, rfl, by decide, Or.inl (gd 351 rfl rfl)⟩, List.forall_mem_cons.mpr ⟨⟨_, rfl, by decide, Or.inl (gd 352 rfl rfl)⟩, List.forall_mem_cons.mpr ⟨⟨_, rfl, by decide, Or.inl (gd 856 rfl rfl)⟩, List.forall_mem_cons.mpr ⟨⟨_, rfl, by decide, Or.inl (gd 857 rfl rfl)⟩, List.forall_mem_cons.mpr ⟨⟨_, rfl, by decide, Or.inl (gd 858 rfl rfl)⟩, fun _ h => absurd h List.not_mem_nil⟩⟩⟩⟩⟩⟩⟩⟩⟩⟩⟩⟩⟩⟩⟩
def FL4 : List (Nat × Nat × Nat × Nat) := [(11, 101, 11, 3), (11, 19, 11, 4), (11, 22, 11, 5), (11, 25, 11, 6), (11, 28, 11, 7), (11, 31, 11, 8), (11, 34, 11, 9), (11, 122, 11, 10), (11, 37, 11, 11), (11, 40, 11, 12), (11, 43, 11, 13), (11, 46, 11, 14), (11, 49, 11, 15), (11, 198, 11, 16), (11, 201, 11, 17)]
set_option maxRecDepth 20000 in
theorem FL4_ok : ∀ q ∈ FL4, FLok q := List.forall_mem_cons.mpr ⟨⟨_, rfl, by decide, Or.inl (gd 859 rfl rfl)⟩, List.forall_mem_cons.mpr ⟨⟨_, rfl, by decide, Or.inl (gd 860 rfl rfl)⟩, List.forall_mem_cons.mpr ⟨⟨_, rfl, by decide, Or.inl (gd 861 rfl rfl)⟩, List.forall_mem_cons.mpr ⟨⟨_, rfl, by decide, Or.inl (gd 862 rfl rfl)⟩, List.forall_mem_cons.mpr ⟨⟨_, rfl, by decide, Or.inl (gd 863 rfl rfl)⟩, List.forall_mem_cons.mpr ⟨⟨_, rfl, by decide, Or.inl (gd 864 rfl rfl)⟩, List.forall_mem_cons.mpr ⟨⟨_, rfl, by decide, Or.inl (gd 865 rfl rfl)⟩, List.forall_mem_cons.mpr ⟨⟨_, rfl, by decide, Or.inl (gd 866 rfl rfl)⟩, List.forall_mem_cons.mpr ⟨⟨_, rfl, by decide, Or.inl (gd 867 rfl rfl)⟩, List.forall_mem_cons.mpr ⟨⟨_, rfl, by decide, Or.inl (gd 868 rfl rfl)⟩, List.forall_mem_cons.mpr ⟨⟨_, rfl, by decide, Or.inl (gd 869 rfl rfl)⟩, List.forall_mem_cons.mpr ⟨⟨_, rfl, by decide, Or.inl (gd 870 rfl rfl)⟩, List.forall_mem_cons.mpr ⟨⟨_, rfl, by decide, Or.inl (gd 871 rfl rfl)⟩, List.forall_mem_cons.mpr ⟨⟨_, rfl, by decide, Or.inl (gd 872 rfl rfl)⟩, List.forall_mem_cons.mpr ⟨⟨_, rfl, by decide, Or.inl (gd 873 rfl rfl)⟩, fun _ h => absurd h List.not_mem_nil⟩⟩⟩⟩⟩⟩⟩⟩⟩⟩⟩⟩⟩⟩⟩
def FL5 : List (Nat × Nat × Nat × Nat) := [(11, 204, 11, 18), (11, 52, 11, 19), (11, 55, 11, 20), (11, 226, 11, 21), (11, 58, 11, 22), (11, 61, 11, 23), (11, 64, 11, 24), (11, 67, 11, 25), (11, 70, 11, 26), (11, 74, 11, 27), (11, 77, 11, 28), (11, 80, 11, 29), (11, 83, 11, 30), (11, 247, 11, 31), (6, 68, 0, 0)]
set_option maxRecDepth 20000 in
theorem FL5_ok : ∀ q ∈ FL5, FLok q := List.forall_mem_cons.mpr ⟨⟨_, rfl, by decide, Or.inl (gd 874 rfl rfl)⟩, List.forall_mem_cons.mpr ⟨⟨_, rfl, by decide, Or.inl (gd 875 rfl rfl)⟩, List.forall_mem_cons.mpr ⟨⟨_, rfl, by decide, Or.inl (gd 876 rfl rfl)⟩, List.forall_mem_cons.mpr ⟨⟨_, rfl, by decide, Or.inl (gd 877 rfl rfl)⟩, List.forall_mem_cons.mpr ⟨⟨_, rfl, by decide, Or.inl (gd 878 rfl rfl)⟩, List.forall_mem_cons.mpr ⟨⟨_, rfl, by decide, Or.inl (gd 879 rfl rfl)⟩, List.forall_mem_cons.mpr ⟨⟨_, rfl, by decide, Or.inl (gd 880 rfl rfl)⟩, List.forall_mem_cons.mpr ⟨⟨_, rfl, by decide, Or.inl (gd 881 rfl rfl)⟩, List.forall_mem_cons.mpr ⟨⟨_, rfl, by decide, Or.inl (gd 882 rfl rfl)⟩, List.forall_mem_cons.mpr ⟨⟨_, rfl, by decide, Or.inl (gd 883 rfl rfl)⟩, List.forall_mem_cons.mpr ⟨⟨_, rfl, by decide, Or.inl (gd 884 rfl rfl)⟩, List.forall_mem_cons.mpr ⟨⟨_, rfl, by decide, Or.inl (gd 885 rfl rfl)⟩, List.forall_mem_cons.mpr ⟨⟨_, rfl, by decide, Or.inl (gd 886 rfl rfl)⟩, List.forall_mem_cons.mpr ⟨⟨_, rfl, by decide, Or.inl (gd 887 rfl rfl)⟩, List.forall_mem_cons.mpr ⟨⟨_, rfl, by decide, Or.inr ⟨"ElevenPaces", nd 114 rfl rfl⟩⟩, fun _ h => absurd h List.not_mem_nil⟩⟩⟩⟩⟩⟩⟩⟩⟩⟩⟩⟩⟩⟩⟩
def FL6 : List (Nat × Nat × Nat × Nat) := [(10, 134, 0, 0), (6, 71, 0, 1), (10, 137, 0, 1), (6, 74, 0, 2), (10, 140, 0, 2), (9, 41, 0, 4), (8, 44, 0, 4), (6, 44, 0, 4), (3, 44, 0, 4), (10, 143, 0, 4), (2, 44, 0, 4), (3, 39, 0, 5), (8, 39, 0, 5), (6, 39, 0, 5), (2, 31, 0, 5)]
set_option maxRecDepth 20000 in
theorem FL6_ok : ∀ q ∈ FL6, FLok q := List.forall_mem_cons.mpr ⟨⟨_, rfl, by decide, Or.inr ⟨"ElevenPaces", nd 115 rfl rfl⟩⟩, List.forall_mem_cons.mpr ⟨⟨_, rfl, by decide, Or.inr ⟨"ElevenPaces", nd 117 rfl rfl⟩⟩, List.forall_mem_cons.mpr ⟨⟨_, rfl, by decide, Or.inr ⟨"ElevenPaces", nd 118 rfl rfl⟩⟩, List.forall_mem_cons.mpr ⟨⟨_, rfl, by decide, Or.inr ⟨"ElevenPaces", nd 120 rfl rfl⟩⟩, List.forall_mem_cons.mpr ⟨⟨_, rfl, by decide, Or.inr ⟨"ElevenPaces", nd 121 rfl rfl⟩⟩, List.forall_mem_cons.mpr ⟨⟨_, rfl, by decide, Or.inr ⟨"ElevenPaces", nd 124 rfl rfl⟩⟩, List.forall_mem_cons.mpr ⟨⟨_, rfl, by decide, Or.inr ⟨"ElevenPaces", nd 125 rfl rfl⟩⟩, List.forall_mem_cons.mpr ⟨⟨_, rfl, by decide, Or.inr ⟨"ElevenPaces", nd 126 rfl rfl⟩⟩, List.forall_mem_cons.mpr ⟨⟨_, rfl, by decide, Or.inr ⟨"ElevenPaces", nd 127 rfl rfl⟩⟩, List.forall_mem_cons.mpr ⟨⟨_, rfl, by decide, Or.inr ⟨"ElevenPaces", nd 128 rfl rfl⟩⟩, List.forall_mem_cons.mpr ⟨⟨_, rfl, by decide, Or.inr ⟨"ElevenPaces", nd 129 rfl rfl⟩⟩, List.forall_mem_cons.mpr ⟨⟨_, rfl, by decide, Or.inr ⟨"ElevenPaces", nd 131 rfl rfl⟩⟩, List.forall_mem_cons.mpr ⟨⟨_, rfl, by decide, Or.inr ⟨"ElevenPaces", nd 132 rfl rfl⟩⟩, List.forall_mem_cons.mpr ⟨⟨_, rfl, by decide, Or.inr ⟨"ElevenPaces", nd 133 rfl rfl⟩⟩, List.forall_mem_cons.mpr ⟨⟨_, rfl, by decide, Or.inr ⟨"ElevenPaces", nd 134 rfl rfl⟩⟩, fun _ h => absurd h List.not_mem_nil⟩⟩⟩⟩⟩⟩⟩⟩⟩⟩⟩⟩⟩⟩⟩
def FL7 : List (Nat × Nat × Nat × Nat) := [(10, 290, 0, 5), (10, 117, 0, 6), (3, 33, 2, 0), (9, 29, 2, 0), (8, 33, 2, 0), (6, 33, 2, 0), (10, 128, 2, 1), (8, 48, 1, 0), (8, 51, 1, 1), (8, 54, 1, 2), (8, 45, 1, 3), (10, 296, 1, 3), (10, 120, 1, 4), (10, 212, 8, 1), (10, 199, 3, 3)]
set_option maxRecDepth 20000 in
theorem FL7_ok : ∀ q ∈ FL7, FLok q := List.forall_mem_cons.mpr ⟨⟨_, rfl, by decide, Or.inr ⟨"ElevenPaces", nd 135 rfl rfl⟩⟩, List.forall_mem_cons.mpr ⟨⟨_, rfl, by decide, Or.inr ⟨"ElevenPaces", nd 137 rfl rfl⟩⟩, List.forall_mem_cons.mpr ⟨⟨_, rfl, by decide, Or.inr ⟨"ElevenPaces", nd 160 rfl rfl⟩⟩, List.forall_mem_cons.mpr ⟨⟨_, rfl, by decide, Or.inr ⟨"ElevenPaces", nd 161 rfl rfl⟩⟩, List.forall_mem_cons.mpr ⟨⟨_, rfl, by decide, Or.inr ⟨"ElevenPaces", nd 162 rfl rfl⟩⟩, List.forall_mem_cons.mpr ⟨⟨_, rfl, by decide, Or.inr ⟨"ElevenPaces", nd 163 rfl rfl⟩⟩, List.forall_mem_cons.mpr ⟨⟨_, rfl, by decide, Or.inr ⟨"ElevenPaces", nd 165 rfl rfl⟩⟩, List.forall_mem_cons.mpr ⟨⟨_, rfl, by decide, Or.inr ⟨"ElevenPaces", nd 178 rfl rfl⟩⟩, List.forall_mem_cons.mpr ⟨⟨_, rfl, by decide, Or.inr ⟨"ElevenPaces", nd 180 rfl rfl⟩⟩, List.forall_mem_cons.mpr ⟨⟨_, rfl, by decide, Or.inr ⟨"ElevenPaces", nd 182 rfl rfl⟩⟩, List.forall_mem_cons.mpr ⟨⟨_, rfl, by decide, Or.inr ⟨"ElevenPaces", nd 184 rfl rfl⟩⟩, List.forall_mem_cons.mpr ⟨⟨_, rfl, by decide, Or.inr ⟨"ElevenPaces", nd 185 rfl rfl⟩⟩, List.forall_mem_cons.mpr ⟨⟨_, rfl, by decide, Or.inr ⟨"ElevenPaces", nd 187 rfl rfl⟩⟩, List.forall_mem_cons.mpr ⟨⟨_, rfl, by decide, Or.inr ⟨"ElevenPaces", nd 208 rfl rfl⟩⟩, List.forall_mem_cons.mpr ⟨⟨_, rfl, by decide, Or.inr ⟨"ElevenPaces", nd 236 rfl rfl⟩⟩, fun _ h => absurd h List.not_mem_nil⟩⟩⟩⟩⟩⟩⟩⟩⟩⟩⟩⟩⟩⟩⟩
def FL8 : List (Nat × Nat × Nat × Nat) := [(10, 196, 3, 4), (10, 202, 3, 5), (10, 297, 4, 1), (10, 256, 6, 4), (10, 258, 6, 5), (10, 167, 5, 0), (10, 156, 5, 1), (10, 278, 5, 2), (10, 164, 5, 3)]
set_option maxRecDepth 20000 in
theorem FL8_ok : ∀ q ∈ FL8, FLok q := List.forall_mem_cons.mpr ⟨⟨_, rfl, by decide, Or.inr ⟨"ElevenPaces", nd 238 rfl rfl⟩⟩, List.forall_mem_cons.mpr ⟨⟨_, rfl, by decide, Or.inr ⟨"ElevenPaces", nd 240 rfl rfl⟩⟩, List.forall_mem_cons.mpr ⟨⟨_, rfl, by decide, Or.inr ⟨"ElevenPaces", nd 284 rfl rfl⟩⟩, List.forall_mem_cons.mpr ⟨⟨_, rfl, by decide, Or.inr ⟨"ElevenPaces", nd 301 rfl rfl⟩⟩, List.forall_mem_cons.mpr ⟨⟨_, rfl, by decide, Or.inr ⟨"ElevenPaces", nd 303 rfl rfl⟩⟩, List.forall_mem_cons.mpr ⟨⟨_, rfl, by decide, Or.inr ⟨"ElevenPaces", nd 325 rfl rfl⟩⟩, List.forall_mem_cons.mpr ⟨⟨_, rfl, by decide, Or.inr ⟨"ElevenPaces", nd 327 rfl rfl⟩⟩, List.forall_mem_cons.mpr ⟨⟨_, rfl, by decide, Or.inr ⟨"ElevenPaces", nd 329 rfl rfl⟩⟩, List.forall_mem_cons.mpr ⟨⟨_, rfl, by decide, Or.inr ⟨"ElevenPaces", nd 331 rfl rfl⟩⟩, fun _ h => absurd h List.not_mem_nil⟩⟩⟩⟩⟩⟩⟩⟩⟩
def FL : List (Nat × Nat × Nat × Nat) := FL0 ++ (FL1 ++ (FL2 ++ (FL3 ++ (FL4 ++ (FL5 ++ (FL6 ++ (FL7 ++ (FL8))))))))
theorem FL_ok : ∀ q ∈ FL, FLok q := List.forall_mem_append.mpr ⟨FL0_ok, List.forall_mem_append.mpr ⟨FL1_ok, List.forall_mem_append.mpr ⟨FL2_ok, List.forall_mem_append.mpr ⟨FL3_ok, List.forall_mem_append.mpr ⟨FL4_ok, List.forall_mem_append.mpr ⟨FL5_ok, List.forall_mem_append.mpr ⟨FL6_ok, List.forall_mem_append.mpr ⟨FL7_ok, FL8_ok⟩⟩⟩⟩⟩⟩⟩⟩
set_option maxRecDepth 20000 in
theorem lay0 : ∀ w ∈ u_ws RX0 TX0 7, w ∈ lw_good := List.forall_mem_cons.mpr ⟨gd 138 rfl rfl, List.forall_mem_cons.mpr ⟨gd 140 rfl rfl, List.forall_mem_cons.mpr ⟨gd 142 rfl rfl, List.forall_mem_cons.mpr ⟨gd 144 rfl rfl, List.forall_mem_cons.mpr ⟨gd 146 rfl rfl, List.forall_mem_cons.mpr ⟨gd 148 rfl rfl, List.forall_mem_cons.mpr ⟨gd 150 rfl rfl, fun _ h => absurd h List.not_mem_nil⟩⟩⟩⟩⟩⟩⟩
set_option maxRecDepth 20000 in
theorem lay1 : ∀ w ∈ u_ws RX1 TX1 5, w ∈ lw_good := List.forall_mem_cons.mpr ⟨gd 188 rfl rfl, List.forall_mem_cons.mpr ⟨gd 190 rfl rfl, List.forall_mem_cons.mpr ⟨gd 192 rfl rfl, List.forall_mem_cons.mpr ⟨gd 194 rfl rfl, List.forall_mem_cons.mpr ⟨gd 196 rfl rfl, fun _ h => absurd h List.not_mem_nil⟩⟩⟩⟩⟩
set_option maxRecDepth 20000 in
theorem lay2 : ∀ w ∈ u_ws RX2 TX2 2, w ∈ lw_good := List.forall_mem_cons.mpr ⟨gd 166 rfl rfl, List.forall_mem_cons.mpr ⟨gd 168 rfl rfl, fun _ h => absurd h List.not_mem_nil⟩⟩
set_option maxRecDepth 20000 in
theorem lay3 : ∀ w ∈ u_ws RX3 TX3 6, w ∈ lw_good := List.forall_mem_cons.mpr ⟨gd 241 rfl rfl, List.forall_mem_cons.mpr ⟨gd 243 rfl rfl, List.forall_mem_cons.mpr ⟨gd 245 rfl rfl, List.forall_mem_cons.mpr ⟨gd 247 rfl rfl, List.forall_mem_cons.mpr ⟨gd 249 rfl rfl, List.forall_mem_cons.mpr ⟨gd 251 rfl rfl, fun _ h => absurd h List.not_mem_nil⟩⟩⟩⟩⟩⟩
set_option maxRecDepth 20000 in
theorem lay4 : ∀ w ∈ u_ws RX4 TX4 2, w ∈ lw_good := List.forall_mem_cons.mpr ⟨gd 285 rfl rfl, List.forall_mem_cons.mpr ⟨gd 287 rfl rfl, fun _ h => absurd h List.not_mem_nil⟩⟩
set_option maxRecDepth 20000 in
theorem lay5 : ∀ w ∈ u_ws RX5 TX5 4, w ∈ lw_good := List.forall_mem_cons.mpr ⟨gd 332 rfl rfl, List.forall_mem_cons.mpr ⟨gd 334 rfl rfl, List.forall_mem_cons.mpr ⟨gd 336 rfl rfl, List.forall_mem_cons.mpr ⟨gd 338 rfl rfl, fun _ h => absurd h List.not_mem_nil⟩⟩⟩⟩
set_option maxRecDepth 20000 in
theorem lay6 : ∀ w ∈ u_ws RX6 TX6 6, w ∈ lw_good := List.forall_mem_cons.mpr ⟨gd 304 rfl rfl, List.forall_mem_cons.mpr ⟨gd 306 rfl rfl, List.forall_mem_cons.mpr ⟨gd 308 rfl rfl, List.forall_mem_cons.mpr ⟨gd 310 rfl rfl, List.forall_mem_cons.mpr ⟨gd 312 rfl rfl, List.forall_mem_cons.mpr ⟨gd 314 rfl rfl, fun _ h => absurd h List.not_mem_nil⟩⟩⟩⟩⟩⟩
set_option maxRecDepth 20000 in
theorem lay7 : ∀ w ∈ u_ws RX7 TX7 2, w ∈ lw_good := List.forall_mem_cons.mpr ⟨gd 101 rfl rfl, List.forall_mem_cons.mpr ⟨gd 103 rfl rfl, fun _ h => absurd h List.not_mem_nil⟩⟩
set_option maxRecDepth 20000 in
theorem lay8 : ∀ w ∈ u_ws RX8 TX8 6, w ∈ lw_good := List.forall_mem_cons.mpr ⟨gd 213 rfl rfl, List.forall_mem_cons.mpr ⟨gd 215 rfl rfl, List.forall_mem_cons.mpr ⟨gd 217 rfl rfl, List.forall_mem_cons.mpr ⟨gd 219 rfl rfl, List.forall_mem_cons.mpr ⟨gd 221 rfl rfl, List.forall_mem_cons.mpr ⟨gd 223 rfl rfl, fun _ h => absurd h List.not_mem_nil⟩⟩⟩⟩⟩⟩
set_option maxRecDepth 20000 in
theorem lay9 : ∀ w ∈ u_ws RX9 TX9 5, w ∈ lw_good := List.forall_mem_cons.mpr ⟨gd 265 rfl rfl, List.forall_mem_cons.mpr ⟨gd 267 rfl rfl, List.forall_mem_cons.mpr ⟨gd 269 rfl rfl, List.forall_mem_cons.mpr ⟨gd 271 rfl rfl, List.forall_mem_cons.mpr ⟨gd 273 rfl rfl, fun _ h => absurd h List.not_mem_nil⟩⟩⟩⟩⟩
set_option maxRecDepth 20000 in
theorem lay10 : ∀ w ∈ u_ws RX10 TX10 12, w ∈ lw_good := List.forall_mem_cons.mpr ⟨gd 353 rfl rfl, List.forall_mem_cons.mpr ⟨gd 355 rfl rfl, List.forall_mem_cons.mpr ⟨gd 357 rfl rfl, List.forall_mem_cons.mpr ⟨gd 359 rfl rfl, List.forall_mem_cons.mpr ⟨gd 361 rfl rfl, List.forall_mem_cons.mpr ⟨gd 363 rfl rfl, List.forall_mem_cons.mpr ⟨gd 365 rfl rfl, List.forall_mem_cons.mpr ⟨gd 367 rfl rfl, List.forall_mem_cons.mpr ⟨gd 369 rfl rfl, List.forall_mem_cons.mpr ⟨gd 371 rfl rfl, List.forall_mem_cons.mpr ⟨gd 373 rfl rfl, List.forall_mem_cons.mpr ⟨gd 375 rfl rfl, fun _ h => absurd h List.not_mem_nil⟩⟩⟩⟩⟩⟩⟩⟩⟩⟩⟩⟩
set_option maxRecDepth 20000 in
theorem lay11 : ∀ w ∈ u_ws RX11 TX11 32, w ∈ lw_good := List.forall_mem_cons.mpr ⟨gd 888 rfl rfl, List.forall_mem_cons.mpr ⟨gd 890 rfl rfl, List.forall_mem_cons.mpr ⟨gd 892 rfl rfl, List.forall_mem_cons.mpr ⟨gd 894 rfl rfl, List.forall_mem_cons.mpr ⟨gd 896 rfl rfl, List.forall_mem_cons.mpr ⟨gd 898 rfl rfl, List.forall_mem_cons.mpr ⟨gd 900 rfl rfl, List.forall_mem_cons.mpr ⟨gd 902 rfl rfl, List.forall_mem_cons.mpr ⟨gd 904 rfl rfl, List.forall_mem_cons.mpr ⟨gd 906 rfl rfl, List.forall_mem_cons.mpr ⟨gd 908 rfl rfl, List.forall_mem_cons.mpr ⟨gd 910 rfl rfl, List.forall_mem_cons.mpr ⟨gd 912 rfl rfl, List.forall_mem_cons.mpr ⟨gd 914 rfl rfl, List.forall_mem_cons.mpr ⟨gd 916 rfl rfl, List.forall_mem_cons.mpr ⟨gd 918 rfl rfl, List.forall_mem_cons.mpr ⟨gd 920 rfl rfl, List.forall_mem_cons.mpr ⟨gd 922 rfl rfl, List.forall_mem_cons.mpr ⟨gd 924 rfl rfl, List.forall_mem_cons.mpr ⟨gd 926 rfl rfl, List.forall_mem_cons.mpr ⟨gd 928 rfl rfl, List.forall_mem_cons.mpr ⟨gd 930 rfl rfl, List.forall_mem_cons.mpr ⟨gd 932 rfl rfl, List.forall_mem_cons.mpr ⟨gd 934 rfl rfl, List.forall_mem_cons.mpr ⟨gd 936 rfl rfl, List.forall_mem_cons.mpr ⟨gd 938 rfl rfl, List.forall_mem_cons.mpr ⟨gd 940 rfl rfl, List.forall_mem_cons.mpr ⟨gd 942 rfl rfl, List.forall_mem_cons.mpr ⟨gd 944 rfl rfl, List.forall_mem_cons.mpr ⟨gd 946 rfl rfl, List.forall_mem_cons.mpr ⟨gd 948 rfl rfl, List.forall_mem_cons.mpr ⟨gd 950 rfl rfl, fun _ h => absurd h List.not_mem_nil⟩⟩⟩⟩⟩⟩⟩⟩⟩⟩⟩⟩⟩⟩⟩⟩⟩⟩⟩⟩⟩⟩⟩⟩⟩⟩⟩⟩⟩⟩⟩⟩
theorem lays_ok : ∀ (ci : Nat) (r : vw_C), vwCl[ci]? = some r → ∀ w ∈ u_ws r.1 r.2.1 r.2.2, w ∈ lw_good
  | 0, _, h => by cases h; exact lay0
  | 1, _, h => by cases h; exact lay1
  | 2, _, h => by cases h; exact lay2
  | 3, _, h => by cases h; exact lay3
  | 4, _, h => by cases h; exact lay4
  | 5, _, h => by cases h; exact lay5
  | 6, _, h => by cases h; exact lay6
  | 7, _, h => by cases h; exact lay7
  | 8, _, h => by cases h; exact lay8
  | 9, _, h => by cases h; exact lay9
  | 10, _, h => by cases h; exact lay10
  | 11, _, h => by cases h; exact lay11
  | n + 12, _, h => by simp [vwCl] at h
def ftyp (ci : Nat) : Nat → FieldType := [tyX0, tyX1, tyX2, tyX3, tyX4, tyX5, tyX6, tyX7, tyX8, tyX9, tyX10, tyX11].getD ci (fun _ => .int)
theorem ftyp_ok : ∀ (ci : Nat) (r : vw_C), vwCl[ci]? = some r → (∀ k, k < r.2.2 → parseFieldDescriptor (r.2.1 k).2.2.1 = some (ftyp ci k)) ∧ (∀ a, a < r.2.2 → ∀ b, b < r.2.2 → a ≠ b → (r.2.1 a).2.1 ≠ (r.2.1 b).2.1)
  | 0, _, h => by cases h; exact ⟨tyX0_ok, nmX0⟩
  | 1, _, h => by cases h; exact ⟨tyX1_ok, nmX1⟩
  | 2, _, h => by cases h; exact ⟨tyX2_ok, nmX2⟩
  | 3, _, h => by cases h; exact ⟨tyX3_ok, nmX3⟩
  | 4, _, h => by cases h; exact ⟨tyX4_ok, nmX4⟩
  | 5, _, h => by cases h; exact ⟨tyX5_ok, nmX5⟩
  | 6, _, h => by cases h; exact ⟨tyX6_ok, nmX6⟩
  | 7, _, h => by cases h; exact ⟨tyX7_ok, nmX7⟩
  | 8, _, h => by cases h; exact ⟨tyX8_ok, nmX8⟩
  | 9, _, h => by cases h; exact ⟨tyX9_ok, nmX9⟩
  | 10, _, h => by cases h; exact ⟨tyX10_ok, nmX10⟩
  | 11, _, h => by cases h; exact ⟨tyX11_ok, nmX11⟩
  | n + 12, _, h => by simp [vwCl] at h
set_option maxRecDepth 20000 in
theorem inst_ok : ∀ (ci : Nat) (r : vw_C), vwCl[ci]? = some r → Cond.instantiable r.1 r.2.2 ∈ lw_good ∧ Cond.initialized r.1 ∈ lw_good
  | 0, _, h => by cases h; exact ⟨gd 108 rfl rfl, gd 70 rfl rfl⟩
  | 1, _, h => by cases h; exact ⟨gd 172 rfl rfl, gd 72 rfl rfl⟩
  | 2, _, h => by cases h; exact ⟨gd 154 rfl rfl, gd 71 rfl rfl⟩
  | 3, _, h => by cases h; exact ⟨gd 227 rfl rfl, gd 74 rfl rfl⟩
  | 4, _, h => by cases h; exact ⟨gd 277 rfl rfl, gd 76 rfl rfl⟩
  | 5, _, h => by cases h; exact ⟨gd 319 rfl rfl, gd 78 rfl rfl⟩
  | 6, _, h => by cases h; exact ⟨gd 291 rfl rfl, gd 77 rfl rfl⟩
  | 7, _, h => by cases h; exact ⟨gd 91 rfl rfl, gd 68 rfl rfl⟩
  | 8, _, h => by cases h; exact ⟨gd 201 rfl rfl, gd 73 rfl rfl⟩
  | 9, _, h => by cases h; exact ⟨gd 255 rfl rfl, gd 75 rfl rfl⟩
  | 10, _, h => by cases h; exact ⟨gd 83 rfl rfl, gd 67 rfl rfl⟩
  | 11, _, h => by cases h; exact ⟨gd 851 rfl rfl, gd 79 rfl rfl⟩
  | n + 12, _, h => by simp [vwCl] at h
def CIok (q : Nat × Nat × Value) : Prop := (∃ x : Int32, q.2.2 = .int x ∧ Cond.constant (Rcls q.1) q.2.1 x ∈ lw_good) ∨ ∃ x : Int64, q.2.2 = .long x ∧ Cond.constantLong (Rcls q.1) q.2.1 x ∈ lw_good
def CI : List (Nat × Nat × Value) := [(10, 277, .int (-2147483648)), (11, 188, .int (1000000)), (11, 257, .int (-2147483648)), (10, 298, .long (17)), (10, 316, .long (31)), (11, 261, .long (17)), (11, 263, .long (31))]
set_option maxRecDepth 20000 in
theorem CI_ok : ∀ q ∈ CI, CIok q := List.forall_mem_cons.mpr ⟨Or.inl ⟨_, rfl, gd 815 rfl rfl⟩, List.forall_mem_cons.mpr ⟨Or.inl ⟨_, rfl, gd 1119 rfl rfl⟩, List.forall_mem_cons.mpr ⟨Or.inl ⟨_, rfl, gd 1248 rfl rfl⟩, List.forall_mem_cons.mpr ⟨Or.inr ⟨_, rfl, gd 838 rfl rfl⟩, List.forall_mem_cons.mpr ⟨Or.inr ⟨_, rfl, gd 843 rfl rfl⟩, List.forall_mem_cons.mpr ⟨Or.inr ⟨_, rfl, gd 1269 rfl rfl⟩, List.forall_mem_cons.mpr ⟨Or.inr ⟨_, rfl, gd 1270 rfl rfl⟩, fun _ h => absurd h List.not_mem_nil⟩⟩⟩⟩⟩⟩⟩
def SKok (q : Nat × Nat × Nat) : Prop := 1 ≤ q.2.2 ∧ q.2.2 < 5 ∧ Cond.fieldLink (Rcls q.1) q.2.1 RX10 (stn q.2.2) "[I" ∈ lw_good
def SK : List (Nat × Nat × Nat) := [(10, 121, 3), (10, 125, 4), (10, 329, 1), (10, 332, 2)]
set_option maxRecDepth 20000 in
theorem SK_ok : ∀ q ∈ SK, SKok q := List.forall_mem_cons.mpr ⟨⟨by decide, by decide, gd 464 rfl rfl⟩, List.forall_mem_cons.mpr ⟨⟨by decide, by decide, gd 466 rfl rfl⟩, List.forall_mem_cons.mpr ⟨⟨by decide, by decide, gd 492 rfl rfl⟩, List.forall_mem_cons.mpr ⟨⟨by decide, by decide, gd 494 rfl rfl⟩, fun _ h => absurd h List.not_mem_nil⟩⟩⟩⟩
def CKok (q : Nat × Nat × Nat) : Prop := ∃ r : vw_C, vwCl[q.2.2]? = some r ∧ Cond.classLink (Rcls q.1) q.2.1 r.1 ∈ lw_good
def CK : List (Nat × Nat × Nat) := [(12, 7, 10), (10, 7, 7), (10, 21, 0), (10, 28, 2), (10, 37, 1), (10, 44, 8), (10, 53, 3), (10, 60, 9), (10, 67, 4), (10, 74, 6), (10, 81, 5), (12, 10, 11)]
set_option maxRecDepth 20000 in
theorem CK_ok : ∀ q ∈ CK, CKok q := List.forall_mem_cons.mpr ⟨⟨_, rfl, gd 82 rfl rfl⟩, List.forall_mem_cons.mpr ⟨⟨_, rfl, gd 90 rfl rfl⟩, List.forall_mem_cons.mpr ⟨⟨_, rfl, gd 107 rfl rfl⟩, List.forall_mem_cons.mpr ⟨⟨_, rfl, gd 153 rfl rfl⟩, List.forall_mem_cons.mpr ⟨⟨_, rfl, gd 171 rfl rfl⟩, List.forall_mem_cons.mpr ⟨⟨_, rfl, gd 200 rfl rfl⟩, List.forall_mem_cons.mpr ⟨⟨_, rfl, gd 226 rfl rfl⟩, List.forall_mem_cons.mpr ⟨⟨_, rfl, gd 254 rfl rfl⟩, List.forall_mem_cons.mpr ⟨⟨_, rfl, gd 276 rfl rfl⟩, List.forall_mem_cons.mpr ⟨⟨_, rfl, gd 290 rfl rfl⟩, List.forall_mem_cons.mpr ⟨⟨_, rfl, gd 317 rfl rfl⟩, List.forall_mem_cons.mpr ⟨⟨_, rfl, gd 850 rfl rfl⟩, fun _ h => absurd h List.not_mem_nil⟩⟩⟩⟩⟩⟩⟩⟩⟩⟩⟩⟩
set_option maxRecDepth 20000 in
theorem oi_10_1 : Cond.methodLink (Rcls 10) 1 objectInit ∈ lw_good := gd 87 rfl rfl
set_option maxRecDepth 20000 in
theorem oi_7_3 : Cond.methodLink (Rcls 7) 3 objectInit ∈ lw_good := gd 95 rfl rfl
set_option maxRecDepth 20000 in
theorem ma_7_9 : Cond.methodLink (Rcls 7) 9 Lib.Math.max.name ∈ lw_good := gd 96 rfl rfl
set_option maxRecDepth 20000 in
theorem oi_0_3 : Cond.methodLink (Rcls 0) 3 objectInit ∈ lw_good := gd 112 rfl rfl
set_option maxRecDepth 20000 in
theorem oi_2_3 : Cond.methodLink (Rcls 2) 3 objectInit ∈ lw_good := gd 158 rfl rfl
set_option maxRecDepth 20000 in
theorem oi_1_3 : Cond.methodLink (Rcls 1) 3 objectInit ∈ lw_good := gd 176 rfl rfl
set_option maxRecDepth 20000 in
theorem oi_8_3 : Cond.methodLink (Rcls 8) 3 objectInit ∈ lw_good := gd 205 rfl rfl
set_option maxRecDepth 20000 in
theorem oi_3_3 : Cond.methodLink (Rcls 3) 3 objectInit ∈ lw_good := gd 231 rfl rfl
set_option maxRecDepth 20000 in
theorem oi_9_3 : Cond.methodLink (Rcls 9) 3 objectInit ∈ lw_good := gd 259 rfl rfl
set_option maxRecDepth 20000 in
theorem oi_4_3 : Cond.methodLink (Rcls 4) 3 objectInit ∈ lw_good := gd 281 rfl rfl
set_option maxRecDepth 20000 in
theorem oi_6_3 : Cond.methodLink (Rcls 6) 3 objectInit ∈ lw_good := gd 295 rfl rfl
set_option maxRecDepth 20000 in
theorem oi_5_3 : Cond.methodLink (Rcls 5) 3 objectInit ∈ lw_good := gd 323 rfl rfl
set_option maxRecDepth 20000 in
theorem ma_0_44 : Cond.methodLink (Rcls 0) 44 Lib.Math.min.name ∈ lw_good := gd 426 rfl rfl
set_option maxRecDepth 20000 in
theorem ac_3_63 : Cond.methodLink (Rcls 3) 63 arraycopyName ∈ lw_good := gd 589 rfl rfl
set_option maxRecDepth 20000 in
theorem ac_9_44 : Cond.methodLink (Rcls 9) 44 arraycopyName ∈ lw_good := gd 633 rfl rfl
set_option maxRecDepth 20000 in
theorem ma_6_85 : Cond.methodLink (Rcls 6) 85 Lib.Math.max.name ∈ lw_good := gd 769 rfl rfl
set_option maxRecDepth 20000 in
theorem ac_10_284 : Cond.methodLink (Rcls 10) 284 arraycopyName ∈ lw_good := gd 824 rfl rfl
set_option maxRecDepth 20000 in
theorem ma_10_291 : Cond.methodLink (Rcls 10) 291 Lib.Math.min.name ∈ lw_good := gd 829 rfl rfl
set_option maxRecDepth 20000 in
theorem oi_11_1 : Cond.methodLink (Rcls 11) 1 objectInit ∈ lw_good := gd 855 rfl rfl
set_option maxRecDepth 20000 in
theorem oi_inst : Cond.instanceMethod objectInit ∈ lw_good := gd 88 rfl rfl
set_option maxRecDepth 20000 in
theorem oi_code : Cond.code objectInit ⟨#[0xb1]⟩ 1 none ∈ lw_good := gd 89 rfl rfl
set_option maxRecDepth 20000 in
theorem ac_nat : Cond.native arraycopyName ∈ lw_good ∧ Cond.static arraycopyName ∈ lw_good ∧ Cond.initialized "java/lang/System" ∈ lw_good := ⟨gd 591 rfl rfl, gd 590 rfl rfl, gd 80 rfl rfl⟩
set_option maxRecDepth 20000 in
theorem ma_max : Cond.static Lib.Math.max.name ∈ lw_good ∧ Cond.initialized "java/lang/Math" ∈ lw_good ∧ Cond.code Lib.Math.max.name Lib.Math.max.code 2 (some .int) ∈ lw_good := ⟨gd 97 rfl rfl, gd 69 rfl rfl, gd 98 rfl rfl⟩
set_option maxRecDepth 20000 in
theorem ma_min : Cond.static Lib.Math.min.name ∈ lw_good ∧ Cond.initialized "java/lang/Math" ∈ lw_good ∧ Cond.code Lib.Math.min.name Lib.Math.min.code 2 (some .int) ∈ lw_good := ⟨gd 427 rfl rfl, gd 69 rfl rfl, gd 428 rfl rfl⟩
set_option maxRecDepth 20000 in
theorem arc_int : Cond.arrayClass .int ∈ lw_good := gd 106 rfl rfl
set_option maxRecDepth 20000 in
theorem arc_boolean : Cond.arrayClass .boolean ∈ lw_good := gd 199 rfl rfl
