theorem q460 : (.codeWith yL_addStep cL_addStep 6 (some .int) [(0, 12, 15, 13), (0, 12, 19, 15)] : Cond) ∈ WA := WA_of (tb_1 231 rfl) rfl
theorem q461 : (.methodLink RL 127 yL_addStep : Cond) ∈ WA := WA_of (tb_1 229 rfl) rfl
theorem q462 : (.static yL_addStep : Cond) ∈ WA := WA_of (tb_1 230 rfl) rfl
theorem q463 : (.initialized RL : Cond) ∈ WA := WA_of (tb_1 0 rfl) rfl
theorem q464 : (.selects RX9 yX9_addStep yX9_addStep : Cond) ∈ WA := WA_of (tb_6 39 rfl) rfl
theorem q465 : (.code yX9_addStep cX9_addStep 7 (some .int) : Cond) ∈ WA := WA_of (tb_6 40 rfl) rfl
theorem q466 : (.methodLink RL 132 yX9_addStep : Cond) ∈ WA := WA_of (tb_6 37 rfl) rfl
theorem q467 : (.instanceMethod yX9_addStep : Cond) ∈ WA := WA_of (tb_6 38 rfl) rfl
theorem q468 : (.selects RX9 yX9_thrown yX9_thrown : Cond) ∈ WA := WA_of (tb_6 35 rfl) rfl
theorem q469 : (.code yX9_thrown cX9_thrown 1 (some .int) : Cond) ∈ WA := WA_of (tb_6 36 rfl) rfl
theorem q470 : (.methodLink RL 133 yX9_thrown : Cond) ∈ WA := WA_of (tb_6 33 rfl) rfl
theorem q471 : (.instanceMethod yX9_thrown : Cond) ∈ WA := WA_of (tb_6 34 rfl) rfl
theorem q472 : (.selects RX8 yX8_dropSteps yX8_dropSteps : Cond) ∈ WA := WA_of (tb_1 170 rfl) rfl
theorem q473 : (.code yX8_dropSteps cX8_dropSteps 2 (some .int) : Cond) ∈ WA := WA_of (tb_1 171 rfl) rfl
theorem q474 : (.methodLink RL 136 yX8_dropSteps : Cond) ∈ WA := WA_of (tb_1 168 rfl) rfl
theorem q475 : (.instanceMethod yX8_dropSteps : Cond) ∈ WA := WA_of (tb_1 169 rfl) rfl
theorem q476 : (.selects RX9 yX9_dropSteps yX9_dropSteps : Cond) ∈ WA := WA_of (tb_6 53 rfl) rfl
theorem q477 : (.code yX9_dropSteps cX9_dropSteps 2 (some .int) : Cond) ∈ WA := WA_of (tb_6 54 rfl) rfl
theorem q478 : (.methodLink RL 139 yX9_dropSteps : Cond) ∈ WA := WA_of (tb_6 51 rfl) rfl
theorem q479 : (.instanceMethod yX9_dropSteps : Cond) ∈ WA := WA_of (tb_6 52 rfl) rfl
theorem q480 : (.codeWith yL_open cL_open 5 (some .int) [(0, 10, 13, 13), (0, 10, 17, 21), (0, 10, 21, 15)] : Cond) ∈ WA := WA_of (tb_2 173 rfl) rfl
theorem q481 : (.methodLink RL 140 yL_open : Cond) ∈ WA := WA_of (tb_2 171 rfl) rfl
theorem q482 : (.static yL_open : Cond) ∈ WA := WA_of (tb_2 172 rfl) rfl
theorem q483 : (.selects RX9 yX9_open yX9_open : Cond) ∈ WA := WA_of (tb_6 57 rfl) rfl
theorem q484 : (.code yX9_open cX9_open 4 (some .int) : Cond) ∈ WA := WA_of (tb_6 58 rfl) rfl
theorem q485 : (.methodLink RL 143 yX9_open : Cond) ∈ WA := WA_of (tb_6 55 rfl) rfl
theorem q486 : (.instanceMethod yX9_open : Cond) ∈ WA := WA_of (tb_6 56 rfl) rfl
theorem q487 : (.codeWith yL_addWord cL_addWord 4 (some .int) [(0, 9, 12, 13), (0, 9, 15, 15)] : Cond) ∈ WA := WA_of (tb_3 38 rfl) rfl
theorem q488 : (.methodLink RL 144 yL_addWord : Cond) ∈ WA := WA_of (tb_3 36 rfl) rfl
theorem q489 : (.static yL_addWord : Cond) ∈ WA := WA_of (tb_3 37 rfl) rfl
theorem q490 : (.selects RX9 yX9_addWord yX9_addWord : Cond) ∈ WA := WA_of (tb_6 65 rfl) rfl
theorem q491 : (.code yX9_addWord cX9_addWord 2 (some .int) : Cond) ∈ WA := WA_of (tb_6 66 rfl) rfl
theorem q492 : (.methodLink RL 147 yX9_addWord : Cond) ∈ WA := WA_of (tb_6 63 rfl) rfl
theorem q493 : (.instanceMethod yX9_addWord : Cond) ∈ WA := WA_of (tb_6 64 rfl) rfl
theorem q494 : (.codeWith yL_close cL_close 3 (some .int) [(0, 8, 11, 15)] : Cond) ∈ WA := WA_of (tb_3 54 rfl) rfl
theorem q495 : (.methodLink RL 148 yL_close : Cond) ∈ WA := WA_of (tb_3 52 rfl) rfl
theorem q496 : (.static yL_close : Cond) ∈ WA := WA_of (tb_3 53 rfl) rfl
theorem q497 : (.selects RX9 yX9_close yX9_close : Cond) ∈ WA := WA_of (tb_6 69 rfl) rfl
theorem q498 : (.code yX9_close cX9_close 3 (some .int) : Cond) ∈ WA := WA_of (tb_6 70 rfl) rfl
theorem q499 : (.methodLink RL 151 yX9_close : Cond) ∈ WA := WA_of (tb_6 67 rfl) rfl
theorem q500 : (.instanceMethod yX9_close : Cond) ∈ WA := WA_of (tb_6 68 rfl) rfl
theorem q501 : (.codeWith yL_remove cL_remove 4 (some .int) [(0, 9, 12, 21), (0, 9, 15, 15)] : Cond) ∈ WA := WA_of (tb_3 118 rfl) rfl
theorem q502 : (.methodLink RL 152 yL_remove : Cond) ∈ WA := WA_of (tb_3 116 rfl) rfl
theorem q503 : (.static yL_remove : Cond) ∈ WA := WA_of (tb_3 117 rfl) rfl
theorem q504 : (.selects RX9 yX9_remove yX9_remove : Cond) ∈ WA := WA_of (tb_6 97 rfl) rfl
theorem q505 : (.code yX9_remove cX9_remove 4 (some .char) : Cond) ∈ WA := WA_of (tb_6 98 rfl) rfl
theorem q506 : (.methodLink RL 154 yX9_remove : Cond) ∈ WA := WA_of (tb_6 95 rfl) rfl
theorem q507 : (.instanceMethod yX9_remove : Cond) ∈ WA := WA_of (tb_6 96 rfl) rfl
theorem q508 : (.codeWith yL_state cL_state 4 (some .int) [(0, 9, 12, 21)] : Cond) ∈ WA := WA_of (tb_3 132 rfl) rfl
theorem q509 : (.methodLink RL 155 yL_state : Cond) ∈ WA := WA_of (tb_3 130 rfl) rfl
theorem q510 : (.static yL_state : Cond) ∈ WA := WA_of (tb_3 131 rfl) rfl
theorem q511 : (.selects RX9 yX9_state yX9_state : Cond) ∈ WA := WA_of (tb_6 101 rfl) rfl
theorem q512 : (.code yX9_state cX9_state 2 (some .char) : Cond) ∈ WA := WA_of (tb_6 102 rfl) rfl
theorem q513 : (.methodLink RL 157 yX9_state : Cond) ∈ WA := WA_of (tb_6 99 rfl) rfl
theorem q514 : (.instanceMethod yX9_state : Cond) ∈ WA := WA_of (tb_6 100 rfl) rfl
theorem q515 : (.codeWith yL_length cL_length 4 (some .int) [(0, 9, 12, 21)] : Cond) ∈ WA := WA_of (tb_3 139 rfl) rfl
theorem q516 : (.methodLink RL 158 yL_length : Cond) ∈ WA := WA_of (tb_3 137 rfl) rfl
theorem q517 : (.static yL_length : Cond) ∈ WA := WA_of (tb_3 138 rfl) rfl
theorem q518 : (.selects RX9 yX9_length yX9_length : Cond) ∈ WA := WA_of (tb_6 105 rfl) rfl
theorem q519 : (.code yX9_length cX9_length 2 (some .int) : Cond) ∈ WA := WA_of (tb_6 106 rfl) rfl
theorem q520 : (.methodLink RL 160 yX9_length : Cond) ∈ WA := WA_of (tb_6 103 rfl) rfl
theorem q521 : (.instanceMethod yX9_length : Cond) ∈ WA := WA_of (tb_6 104 rfl) rfl
theorem q522 : (.codeWith yL_standing cL_standing 6 (some .int) [(0, 12, 15, 21)] : Cond) ∈ WA := WA_of (tb_3 150 rfl) rfl
theorem q523 : (.methodLink RL 161 yL_standing : Cond) ∈ WA := WA_of (tb_3 148 rfl) rfl
theorem q524 : (.static yL_standing : Cond) ∈ WA := WA_of (tb_3 149 rfl) rfl
theorem q525 : (.selects RX9 yX9_standing yX9_standing : Cond) ∈ WA := WA_of (tb_6 109 rfl) rfl
theorem q526 : (.code yX9_standing cX9_standing 4 (some .int) : Cond) ∈ WA := WA_of (tb_6 110 rfl) rfl
theorem q527 : (.methodLink RL 164 yX9_standing : Cond) ∈ WA := WA_of (tb_6 107 rfl) rfl
theorem q528 : (.instanceMethod yX9_standing : Cond) ∈ WA := WA_of (tb_6 108 rfl) rfl
theorem q529 : (.selects RX8 yX8_write yX8_write : Cond) ∈ WA := WA_of (tb_1 182 rfl) rfl
theorem q530 : (.code yX8_write cX8_write 1 (some .int) : Cond) ∈ WA := WA_of (tb_1 183 rfl) rfl
theorem q531 : (.methodLink RL 165 yX8_write : Cond) ∈ WA := WA_of (tb_1 180 rfl) rfl
theorem q532 : (.instanceMethod yX8_write : Cond) ∈ WA := WA_of (tb_1 181 rfl) rfl
theorem q533 : (.selects RX9 yX9_write yX9_write : Cond) ∈ WA := WA_of (tb_6 117 rfl) rfl
theorem q534 : (.code yX9_write cX9_write 1 (some .int) : Cond) ∈ WA := WA_of (tb_6 118 rfl) rfl
theorem q535 : (.methodLink RL 168 yX9_write : Cond) ∈ WA := WA_of (tb_6 115 rfl) rfl
theorem q536 : (.instanceMethod yX9_write : Cond) ∈ WA := WA_of (tb_6 116 rfl) rfl
theorem q537 : (.selects RX8 yX8_segments yX8_segments : Cond) ∈ WA := WA_of (tb_1 202 rfl) rfl
theorem q538 : (.code yX8_segments cX8_segments 1 (some .int) : Cond) ∈ WA := WA_of (tb_1 203 rfl) rfl
theorem q539 : (.methodLink RL 169 yX8_segments : Cond) ∈ WA := WA_of (tb_1 200 rfl) rfl
theorem q540 : (.instanceMethod yX8_segments : Cond) ∈ WA := WA_of (tb_1 201 rfl) rfl
theorem q541 : (.selects RX9 yX9_segments yX9_segments : Cond) ∈ WA := WA_of (tb_6 125 rfl) rfl
theorem q542 : (.code yX9_segments cX9_segments 1 (some .int) : Cond) ∈ WA := WA_of (tb_6 126 rfl) rfl
theorem q543 : (.methodLink RL 172 yX9_segments : Cond) ∈ WA := WA_of (tb_6 123 rfl) rfl
theorem q544 : (.instanceMethod yX9_segments : Cond) ∈ WA := WA_of (tb_6 124 rfl) rfl
theorem q545 : (.codeWith yL_size cL_size 4 (some .int) [(0, 9, 12, 21)] : Cond) ∈ WA := WA_of (tb_3 158 rfl) rfl
theorem q546 : (.methodLink RL 173 yL_size : Cond) ∈ WA := WA_of (tb_3 156 rfl) rfl
theorem q547 : (.static yL_size : Cond) ∈ WA := WA_of (tb_3 157 rfl) rfl
theorem q548 : (.selects RX9 yX9_size yX9_size : Cond) ∈ WA := WA_of (tb_6 129 rfl) rfl
theorem q549 : (.code yX9_size cX9_size 2 (some .int) : Cond) ∈ WA := WA_of (tb_6 130 rfl) rfl
theorem q550 : (.methodLink RL 175 yX9_size : Cond) ∈ WA := WA_of (tb_6 127 rfl) rfl
theorem q551 : (.instanceMethod yX9_size : Cond) ∈ WA := WA_of (tb_6 128 rfl) rfl
theorem q552 : (.codeWith yL_merge cL_merge 4 (some .int) [(0, 9, 12, 21)] : Cond) ∈ WA := WA_of (tb_3 174 rfl) rfl
theorem q553 : (.methodLink RL 176 yL_merge : Cond) ∈ WA := WA_of (tb_3 172 rfl) rfl
theorem q554 : (.static yL_merge : Cond) ∈ WA := WA_of (tb_3 173 rfl) rfl
theorem q555 : (.selects RX9 yX9_merge yX9_merge : Cond) ∈ WA := WA_of (tb_6 137 rfl) rfl
theorem q556 : (.code yX9_merge cX9_merge 6 (some .int) : Cond) ∈ WA := WA_of (tb_6 138 rfl) rfl
theorem q557 : (.methodLink RL 178 yX9_merge : Cond) ∈ WA := WA_of (tb_6 135 rfl) rfl
theorem q558 : (.instanceMethod yX9_merge : Cond) ∈ WA := WA_of (tb_6 136 rfl) rfl
theorem q559 : (.selects RX8 yX8_commit yX8_commit : Cond) ∈ WA := WA_of (tb_1 206 rfl) rfl
theorem q560 : (.code yX8_commit cX8_commit 1 (some .int) : Cond) ∈ WA := WA_of (tb_1 207 rfl) rfl
theorem q561 : (.methodLink RL 179 yX8_commit : Cond) ∈ WA := WA_of (tb_1 204 rfl) rfl
theorem q562 : (.instanceMethod yX8_commit : Cond) ∈ WA := WA_of (tb_1 205 rfl) rfl
theorem q563 : (.selects RX9 yX9_commit yX9_commit : Cond) ∈ WA := WA_of (tb_6 141 rfl) rfl
theorem q564 : (.code yX9_commit cX9_commit 3 (some .int) : Cond) ∈ WA := WA_of (tb_6 142 rfl) rfl
theorem q565 : (.methodLink RL 182 yX9_commit : Cond) ∈ WA := WA_of (tb_6 139 rfl) rfl
theorem q566 : (.instanceMethod yX9_commit : Cond) ∈ WA := WA_of (tb_6 140 rfl) rfl
theorem q567 : (.selects RX8 yX8_crash yX8_crash : Cond) ∈ WA := WA_of (tb_1 219 rfl) rfl
theorem q568 : (.code yX8_crash cX8_crash 1 (some .int) : Cond) ∈ WA := WA_of (tb_1 220 rfl) rfl
theorem q569 : (.methodLink RL 183 yX8_crash : Cond) ∈ WA := WA_of (tb_1 217 rfl) rfl
theorem q570 : (.instanceMethod yX8_crash : Cond) ∈ WA := WA_of (tb_1 218 rfl) rfl
theorem q571 : (.selects RX9 yX9_crash yX9_crash : Cond) ∈ WA := WA_of (tb_6 145 rfl) rfl
theorem q572 : (.code yX9_crash cX9_crash 4 (some .int) : Cond) ∈ WA := WA_of (tb_6 146 rfl) rfl
theorem q573 : (.methodLink RL 186 yX9_crash : Cond) ∈ WA := WA_of (tb_6 143 rfl) rfl
theorem q574 : (.instanceMethod yX9_crash : Cond) ∈ WA := WA_of (tb_6 144 rfl) rfl
theorem q575 : (.codeWith yL_follow cL_follow 3 (some .int) [(0, 8, 11, 15)] : Cond) ∈ WA := WA_of (tb_3 190 rfl) rfl
theorem q576 : (.methodLink RL 187 yL_follow : Cond) ∈ WA := WA_of (tb_3 188 rfl) rfl
theorem q577 : (.static yL_follow : Cond) ∈ WA := WA_of (tb_3 189 rfl) rfl
theorem q578 : (.selects RX9 yX9_follow yX9_follow : Cond) ∈ WA := WA_of (tb_6 153 rfl) rfl
theorem q579 : (.code yX9_follow cX9_follow 3 (some .int) : Cond) ∈ WA := WA_of (tb_6 154 rfl) rfl
theorem q580 : (.methodLink RL 189 yX9_follow : Cond) ∈ WA := WA_of (tb_6 151 rfl) rfl
theorem q581 : (.instanceMethod yX9_follow : Cond) ∈ WA := WA_of (tb_6 152 rfl) rfl
theorem q582 : (.codeWith yL_isOnReplica cL_isOnReplica 4 (some .int) [(0, 16, 19, 21)] : Cond) ∈ WA := WA_of (tb_3 206 rfl) rfl
theorem q583 : (.methodLink RL 190 yL_isOnReplica : Cond) ∈ WA := WA_of (tb_3 204 rfl) rfl
theorem q584 : (.static yL_isOnReplica : Cond) ∈ WA := WA_of (tb_3 205 rfl) rfl
theorem q585 : (.selects RX9 yX9_isOnReplica yX9_isOnReplica : Cond) ∈ WA := WA_of (tb_6 157 rfl) rfl
theorem q586 : (.code yX9_isOnReplica cX9_isOnReplica 2 (some .boolean) : Cond) ∈ WA := WA_of (tb_6 158 rfl) rfl
theorem q587 : (.methodLink RL 192 yX9_isOnReplica : Cond) ∈ WA := WA_of (tb_6 155 rfl) rfl
theorem q588 : (.instanceMethod yX9_isOnReplica : Cond) ∈ WA := WA_of (tb_6 156 rfl) rfl
theorem q589 : (.codeWith yL_openView cL_openView 3 (some .int) [(0, 8, 11, 15)] : Cond) ∈ WA := WA_of (tb_3 214 rfl) rfl
theorem q590 : (.methodLink RL 193 yL_openView : Cond) ∈ WA := WA_of (tb_3 212 rfl) rfl
theorem q591 : (.static yL_openView : Cond) ∈ WA := WA_of (tb_3 213 rfl) rfl
theorem q592 : (.selects RX9 yX9_openView yX9_openView : Cond) ∈ WA := WA_of (tb_6 161 rfl) rfl
theorem q593 : (.code yX9_openView cX9_openView 2 (some .int) : Cond) ∈ WA := WA_of (tb_6 162 rfl) rfl
theorem q594 : (.methodLink RL 195 yX9_openView : Cond) ∈ WA := WA_of (tb_6 159 rfl) rfl
theorem q595 : (.instanceMethod yX9_openView : Cond) ∈ WA := WA_of (tb_6 160 rfl) rfl
theorem q596 : (.codeWith yL_closeView cL_closeView 4 (some .int) [(0, 9, 12, 21)] : Cond) ∈ WA := WA_of (tb_4 1 rfl) rfl
theorem q597 : (.methodLink RL 196 yL_closeView : Cond) ∈ WA := WA_of (tb_3 239 rfl) rfl
theorem q598 : (.static yL_closeView : Cond) ∈ WA := WA_of (tb_4 0 rfl) rfl
theorem q599 : (.selects RX9 yX9_closeView yX9_closeView : Cond) ∈ WA := WA_of (tb_6 165 rfl) rfl
theorem q600 : (.code yX9_closeView cX9_closeView 5 (some .int) : Cond) ∈ WA := WA_of (tb_6 166 rfl) rfl
theorem q601 : (.methodLink RL 198 yX9_closeView : Cond) ∈ WA := WA_of (tb_6 163 rfl) rfl
theorem q602 : (.instanceMethod yX9_closeView : Cond) ∈ WA := WA_of (tb_6 164 rfl) rfl
theorem q603 : (.codeWith yL_seen cL_seen 4 (some .int) [(0, 9, 12, 21)] : Cond) ∈ WA := WA_of (tb_4 22 rfl) rfl
theorem q604 : (.methodLink RL 199 yL_seen : Cond) ∈ WA := WA_of (tb_4 20 rfl) rfl
theorem q605 : (.static yL_seen : Cond) ∈ WA := WA_of (tb_4 21 rfl) rfl
theorem q606 : (.selects RX9 yX9_seen yX9_seen : Cond) ∈ WA := WA_of (tb_6 173 rfl) rfl
theorem q607 : (.code yX9_seen cX9_seen 3 (some .int) : Cond) ∈ WA := WA_of (tb_6 174 rfl) rfl
theorem q608 : (.methodLink RL 201 yX9_seen : Cond) ∈ WA := WA_of (tb_6 171 rfl) rfl
theorem q609 : (.instanceMethod yX9_seen : Cond) ∈ WA := WA_of (tb_6 172 rfl) rfl
theorem q610 : (.codeWith yL_ask cL_ask 8 (some .int) [(0, 16, 19, 13), (0, 16, 23, 15)] : Cond) ∈ WA := WA_of (tb_4 33 rfl) rfl
theorem q611 : (.methodLink RL 202 yL_ask : Cond) ∈ WA := WA_of (tb_4 31 rfl) rfl
theorem q612 : (.static yL_ask : Cond) ∈ WA := WA_of (tb_4 32 rfl) rfl
theorem q613 : (.selects RX9 yX9_ask yX9_ask : Cond) ∈ WA := WA_of (tb_6 181 rfl) rfl
theorem q614 : (.code yX9_ask cX9_ask 8 (some .int) : Cond) ∈ WA := WA_of (tb_6 182 rfl) rfl
theorem q615 : (.methodLink RL 205 yX9_ask : Cond) ∈ WA := WA_of (tb_6 179 rfl) rfl
theorem q616 : (.instanceMethod yX9_ask : Cond) ∈ WA := WA_of (tb_6 180 rfl) rfl
theorem q617 : (.codeWith yL_join cL_join 6 (some .int) [(0, 12, 15, 13), (0, 12, 19, 21), (0, 12, 23, 15)] : Cond) ∈ WA := WA_of (tb_4 75 rfl) rfl
theorem q618 : (.methodLink RL 206 yL_join : Cond) ∈ WA := WA_of (tb_4 73 rfl) rfl
theorem q619 : (.static yL_join : Cond) ∈ WA := WA_of (tb_4 74 rfl) rfl
theorem q620 : (.selects RX9 yX9_join yX9_join : Cond) ∈ WA := WA_of (tb_6 189 rfl) rfl
theorem q621 : (.code yX9_join cX9_join 7 (some .int) : Cond) ∈ WA := WA_of (tb_6 190 rfl) rfl
theorem q622 : (.methodLink RL 208 yX9_join : Cond) ∈ WA := WA_of (tb_6 187 rfl) rfl
theorem q623 : (.instanceMethod yX9_join : Cond) ∈ WA := WA_of (tb_6 188 rfl) rfl
theorem q624 : (.codeWith yL_hits cL_hits 5 (some .int) [(0, 10, 13, 21)] : Cond) ∈ WA := WA_of (tb_4 92 rfl) rfl
theorem q625 : (.methodLink RL 209 yL_hits : Cond) ∈ WA := WA_of (tb_4 90 rfl) rfl
theorem q626 : (.static yL_hits : Cond) ∈ WA := WA_of (tb_4 91 rfl) rfl
theorem q627 : (.selects RX9 yX9_hits yX9_hits : Cond) ∈ WA := WA_of (tb_6 197 rfl) rfl
theorem q628 : (.code yX9_hits cX9_hits 3 (some .int) : Cond) ∈ WA := WA_of (tb_6 198 rfl) rfl
theorem q629 : (.methodLink RL 211 yX9_hits : Cond) ∈ WA := WA_of (tb_6 195 rfl) rfl
theorem q630 : (.instanceMethod yX9_hits : Cond) ∈ WA := WA_of (tb_6 196 rfl) rfl
theorem q631 : (.codeWith yL_hit cL_hit 6 (some .int) [(0, 12, 15, 21), (0, 12, 19, 80)] : Cond) ∈ WA := WA_of (tb_4 182 rfl) rfl
theorem q632 : (.methodLink RL 212 yL_hit : Cond) ∈ WA := WA_of (tb_4 180 rfl) rfl
theorem q633 : (.static yL_hit : Cond) ∈ WA := WA_of (tb_4 181 rfl) rfl
theorem q634 : (.selects RX9 yX9_hit yX9_hit : Cond) ∈ WA := WA_of (tb_7 11 rfl) rfl
theorem q635 : (.code yX9_hit cX9_hit 4 (some .int) : Cond) ∈ WA := WA_of (tb_7 12 rfl) rfl
theorem q636 : (.methodLink RL 214 yX9_hit : Cond) ∈ WA := WA_of (tb_7 9 rfl) rfl
theorem q637 : (.instanceMethod yX9_hit : Cond) ∈ WA := WA_of (tb_7 10 rfl) rfl
theorem q638 : (.codeWith yL_score cL_score 6 (some .int) [(0, 11, 14, 21), (0, 11, 18, 80)] : Cond) ∈ WA := WA_of (tb_4 214 rfl) rfl
theorem q639 : (.methodLink RL 215 yL_score : Cond) ∈ WA := WA_of (tb_4 212 rfl) rfl
theorem q640 : (.static yL_score : Cond) ∈ WA := WA_of (tb_4 213 rfl) rfl
theorem q641 : (.selects RX9 yX9_score yX9_score : Cond) ∈ WA := WA_of (tb_7 19 rfl) rfl
theorem q642 : (.code yX9_score cX9_score 4 (some .long) : Cond) ∈ WA := WA_of (tb_7 20 rfl) rfl
theorem q643 : (.methodLink RL 217 yX9_score : Cond) ∈ WA := WA_of (tb_7 17 rfl) rfl
theorem q644 : (.instanceMethod yX9_score : Cond) ∈ WA := WA_of (tb_7 18 rfl) rfl
theorem q645 : (.codeWith yL_scoreAlone cL_scoreAlone 6 (some .int) [(0, 11, 14, 21)] : Cond) ∈ WA := WA_of (tb_4 222 rfl) rfl
theorem q646 : (.methodLink RL 218 yL_scoreAlone : Cond) ∈ WA := WA_of (tb_4 220 rfl) rfl
theorem q647 : (.static yL_scoreAlone : Cond) ∈ WA := WA_of (tb_4 221 rfl) rfl
theorem q648 : (.selects RX9 yX9_scoreAlone yX9_scoreAlone : Cond) ∈ WA := WA_of (tb_7 23 rfl) rfl
theorem q649 : (.code yX9_scoreAlone cX9_scoreAlone 4 (some .long) : Cond) ∈ WA := WA_of (tb_7 24 rfl) rfl
theorem q650 : (.methodLink RL 220 yX9_scoreAlone : Cond) ∈ WA := WA_of (tb_7 21 rfl) rfl
theorem q651 : (.instanceMethod yX9_scoreAlone : Cond) ∈ WA := WA_of (tb_7 22 rfl) rfl
theorem q652 : (.codeWith yL_tagged cL_tagged 6 (some .int) [(0, 12, 15, 21), (0, 12, 19, 13)] : Cond) ∈ WA := WA_of (tb_4 237 rfl) rfl
theorem q653 : (.methodLink RL 221 yL_tagged : Cond) ∈ WA := WA_of (tb_4 235 rfl) rfl
theorem q654 : (.static yL_tagged : Cond) ∈ WA := WA_of (tb_4 236 rfl) rfl
theorem q655 : (.selects RX9 yX9_tagged yX9_tagged : Cond) ∈ WA := WA_of (tb_7 32 rfl) rfl
theorem q656 : (.code yX9_tagged cX9_tagged 7 (some .int) : Cond) ∈ WA := WA_of (tb_7 33 rfl) rfl
theorem q657 : (.methodLink RL 223 yX9_tagged : Cond) ∈ WA := WA_of (tb_7 30 rfl) rfl
theorem q658 : (.instanceMethod yX9_tagged : Cond) ∈ WA := WA_of (tb_7 31 rfl) rfl
theorem q659 : (.codeWith yL_firstTagged cL_firstTagged 6 (some .int) [(0, 12, 15, 21), (0, 12, 19, 13), (0, 12, 23, 80)] : Cond) ∈ WA := WA_of (tb_5 8 rfl) rfl
theorem q660 : (.methodLink RL 224 yL_firstTagged : Cond) ∈ WA := WA_of (tb_5 6 rfl) rfl
theorem q661 : (.static yL_firstTagged : Cond) ∈ WA := WA_of (tb_5 7 rfl) rfl
theorem q662 : (.selects RX9 yX9_firstTagged yX9_firstTagged : Cond) ∈ WA := WA_of (tb_7 36 rfl) rfl
theorem q663 : (.code yX9_firstTagged cX9_firstTagged 6 (some .int) : Cond) ∈ WA := WA_of (tb_7 37 rfl) rfl
theorem q664 : (.methodLink RL 226 yX9_firstTagged : Cond) ∈ WA := WA_of (tb_7 34 rfl) rfl
theorem q665 : (.instanceMethod yX9_firstTagged : Cond) ∈ WA := WA_of (tb_7 35 rfl) rfl
theorem q666 : (.codeWith yL_wholes cL_wholes 5 (some .int) [(0, 10, 13, 21)] : Cond) ∈ WA := WA_of (tb_5 16 rfl) rfl
theorem q667 : (.methodLink RL 227 yL_wholes : Cond) ∈ WA := WA_of (tb_5 14 rfl) rfl
theorem q668 : (.static yL_wholes : Cond) ∈ WA := WA_of (tb_5 15 rfl) rfl
theorem q669 : (.selects RX9 yX9_wholes yX9_wholes : Cond) ∈ WA := WA_of (tb_7 40 rfl) rfl
theorem q670 : (.code yX9_wholes cX9_wholes 5 (some .int) : Cond) ∈ WA := WA_of (tb_7 41 rfl) rfl
theorem q671 : (.methodLink RL 229 yX9_wholes : Cond) ∈ WA := WA_of (tb_7 38 rfl) rfl
theorem q672 : (.instanceMethod yX9_wholes : Cond) ∈ WA := WA_of (tb_7 39 rfl) rfl
theorem q673 : (.codeWith yL_wholeScore cL_wholeScore 6 (some .int) [(0, 11, 14, 21), (0, 11, 18, 80)] : Cond) ∈ WA := WA_of (tb_5 28 rfl) rfl
theorem q674 : (.methodLink RL 230 yL_wholeScore : Cond) ∈ WA := WA_of (tb_5 26 rfl) rfl
theorem q675 : (.static yL_wholeScore : Cond) ∈ WA := WA_of (tb_5 27 rfl) rfl
theorem q676 : (.selects RX9 yX9_wholeScore yX9_wholeScore : Cond) ∈ WA := WA_of (tb_7 48 rfl) rfl
theorem q677 : (.code yX9_wholeScore cX9_wholeScore 8 (some .long) : Cond) ∈ WA := WA_of (tb_7 49 rfl) rfl
theorem q678 : (.methodLink RL 232 yX9_wholeScore : Cond) ∈ WA := WA_of (tb_7 46 rfl) rfl
theorem q679 : (.instanceMethod yX9_wholeScore : Cond) ∈ WA := WA_of (tb_7 47 rfl) rfl
theorem q680 : (.codeWith yL_marked cL_marked 6 (some .int) [(0, 12, 15, 21), (0, 12, 19, 80)] : Cond) ∈ WA := WA_of (tb_5 36 rfl) rfl
theorem q681 : (.methodLink RL 233 yL_marked : Cond) ∈ WA := WA_of (tb_5 34 rfl) rfl
theorem q682 : (.static yL_marked : Cond) ∈ WA := WA_of (tb_5 35 rfl) rfl
theorem q683 : (.selects RX9 yX9_marked yX9_marked : Cond) ∈ WA := WA_of (tb_7 52 rfl) rfl
theorem q684 : (.code yX9_marked cX9_marked 8 (some .int) : Cond) ∈ WA := WA_of (tb_7 53 rfl) rfl
theorem q685 : (.methodLink RL 235 yX9_marked : Cond) ∈ WA := WA_of (tb_7 50 rfl) rfl
theorem q686 : (.instanceMethod yX9_marked : Cond) ∈ WA := WA_of (tb_7 51 rfl) rfl
theorem q687 : (.codeWith yL_click cL_click 4 (some .int) [(0, 9, 12, 21)] : Cond) ∈ WA := WA_of (tb_5 56 rfl) rfl
theorem q688 : (.methodLink RL 236 yL_click : Cond) ∈ WA := WA_of (tb_5 54 rfl) rfl
theorem q689 : (.static yL_click : Cond) ∈ WA := WA_of (tb_5 55 rfl) rfl
theorem q690 : (.selects RX9 yX9_click yX9_click : Cond) ∈ WA := WA_of (tb_7 72 rfl) rfl
theorem q691 : (.code yX9_click cX9_click 2 (some .int) : Cond) ∈ WA := WA_of (tb_7 73 rfl) rfl
theorem q692 : (.methodLink RL 238 yX9_click : Cond) ∈ WA := WA_of (tb_7 70 rfl) rfl
theorem q693 : (.instanceMethod yX9_click : Cond) ∈ WA := WA_of (tb_7 71 rfl) rfl
theorem q694 : (.codeWith yL_setBound cL_setBound 4 (some .int) [(0, 9, 12, 13)] : Cond) ∈ WA := WA_of (tb_5 63 rfl) rfl
theorem q695 : (.methodLink RL 239 yL_setBound : Cond) ∈ WA := WA_of (tb_5 61 rfl) rfl
theorem q696 : (.static yL_setBound : Cond) ∈ WA := WA_of (tb_5 62 rfl) rfl
theorem q697 : (.selects RX9 yX9_setBound yX9_setBound : Cond) ∈ WA := WA_of (tb_7 76 rfl) rfl
theorem q698 : (.code yX9_setBound cX9_setBound 3 (some .int) : Cond) ∈ WA := WA_of (tb_7 77 rfl) rfl
theorem q699 : (.methodLink RL 241 yX9_setBound : Cond) ∈ WA := WA_of (tb_7 74 rfl) rfl
theorem q700 : (.instanceMethod yX9_setBound : Cond) ∈ WA := WA_of (tb_7 75 rfl) rfl
theorem q701 : (.codeWith yL_turned cL_turned 5 (some .int) [(0, 10, 13, 21)] : Cond) ∈ WA := WA_of (tb_5 71 rfl) rfl
theorem q702 : (.methodLink RL 242 yL_turned : Cond) ∈ WA := WA_of (tb_5 69 rfl) rfl
theorem q703 : (.static yL_turned : Cond) ∈ WA := WA_of (tb_5 70 rfl) rfl
theorem q704 : (.selects RX9 yX9_turned yX9_turned : Cond) ∈ WA := WA_of (tb_7 80 rfl) rfl
theorem q705 : (.code yX9_turned cX9_turned 6 (some .int) : Cond) ∈ WA := WA_of (tb_7 81 rfl) rfl
theorem q706 : (.methodLink RL 244 yX9_turned : Cond) ∈ WA := WA_of (tb_7 78 rfl) rfl
theorem q707 : (.instanceMethod yX9_turned : Cond) ∈ WA := WA_of (tb_7 79 rfl) rfl
theorem q708 : (.codeWith yL_removedShare cL_removedShare 3 (some .int) [(0, 8, 11, 117)] : Cond) ∈ WA := WA_of (tb_5 78 rfl) rfl
theorem q709 : (.methodLink RL 245 yL_removedShare : Cond) ∈ WA := WA_of (tb_5 76 rfl) rfl
theorem q710 : (.static yL_removedShare : Cond) ∈ WA := WA_of (tb_5 77 rfl) rfl
theorem q711 : (.selects RX9 yX9_removedShare yX9_removedShare : Cond) ∈ WA := WA_of (tb_7 84 rfl) rfl
theorem q712 : (.code yX9_removedShare cX9_removedShare 4 (some .float) : Cond) ∈ WA := WA_of (tb_7 85 rfl) rfl
theorem q713 : (.methodLink RL 248 yX9_removedShare : Cond) ∈ WA := WA_of (tb_7 82 rfl) rfl
theorem q714 : (.instanceMethod yX9_removedShare : Cond) ∈ WA := WA_of (tb_7 83 rfl) rfl
theorem q715 : (.codeWith yL_meanLength cL_meanLength 4 (some .int) [(0, 8, 11, 21), (0, 8, 14, 117)] : Cond) ∈ WA := WA_of (tb_5 110 rfl) rfl
theorem q716 : (.methodLink RL 249 yL_meanLength : Cond) ∈ WA := WA_of (tb_5 108 rfl) rfl
theorem q717 : (.static yL_meanLength : Cond) ∈ WA := WA_of (tb_5 109 rfl) rfl
theorem q718 : (.selects RX9 yX9_meanLength yX9_meanLength : Cond) ∈ WA := WA_of (tb_7 88 rfl) rfl
theorem q719 : (.code yX9_meanLength cX9_meanLength 5 (some .double) : Cond) ∈ WA := WA_of (tb_7 89 rfl) rfl
theorem q720 : (.methodLink RL 252 yX9_meanLength : Cond) ∈ WA := WA_of (tb_7 86 rfl) rfl
theorem q721 : (.instanceMethod yX9_meanLength : Cond) ∈ WA := WA_of (tb_7 87 rfl) rfl
theorem q722 : (.classLink RL 8 RX8 : Cond) ∈ WA := WA_of (tb_1 30 rfl) rfl
theorem q723 : (.instantiable RX8 12 : Cond) ∈ WA := WA_of (tb_1 31 rfl) rfl
theorem q724 : (.code yX8_init cX8_init 1 none : Cond) ∈ WA := WA_of (tb_1 34 rfl) rfl
theorem q725 : (.methodLink RL 123 yX8_init : Cond) ∈ WA := WA_of (tb_1 32 rfl) rfl
theorem q726 : (.instanceMethod yX8_init : Cond) ∈ WA := WA_of (tb_1 33 rfl) rfl
theorem q727 : (.classLink RL 124 RX9 : Cond) ∈ WA := WA_of (tb_5 116 rfl) rfl
theorem q728 : (.instantiable RX9 49 : Cond) ∈ WA := WA_of (tb_5 117 rfl) rfl
theorem q729 : (.code yX9_init cX9_init 1 none : Cond) ∈ WA := WA_of (tb_5 120 rfl) rfl
theorem q730 : (.methodLink RL 126 yX9_init : Cond) ∈ WA := WA_of (tb_5 118 rfl) rfl
theorem q731 : (.instanceMethod yX9_init : Cond) ∈ WA := WA_of (tb_5 119 rfl) rfl
theorem q732 : (.arrayClass .double : Cond) ∈ WA := WA_of (tb_7 90 rfl) rfl
theorem st_lt {l : Launch} (h : l.flags = flags0) : l.stackTraces = false := by
  unfold Launch.stackTraces
  rw [h]
  decide +kernel
theorem ac_ty {args : Array Value} {s : State} (ty : FieldType) (h : (Cond.arrayClass ty).before args s = true) : ∃ cA, ArrOfT s cA ty ∧ s.vm.findClass ("[" ++ ty.toString) = some cA := by
  obtain ⟨cA, k, comp, h1, h2, h3⟩ := Cond.arrayClass_spec h
  exact ⟨cA, fun n z => ⟨fun k => nofun, k, h2, comp, h3⟩, h1⟩
theorem ac_ob {args : Array Value} {s : State} {C : String} (h : (Cond.arrayOver (.object C)).before args s = true) : ∃ cA, ArrOfT s cA (.object C) ∧ va_RA s cA (.object C) := by
  obtain ⟨comp, cA, k, h1, -, h3, h4, h5⟩ := Cond.arrayOver_spec h
  exact ⟨cA, fun n z => ⟨fun k => nofun, k, h3, comp, h4⟩, k, comp, h3, h4, h1, h5⟩
theorem inTJ0 : ∀ w ∈ u_ws RJ0 TJ0 2, w ∈ lw_tbl := by
  show ∀ w ∈ ([.laysFinal "java/lang/String" "java/lang/String" "value" "[B", .laysFinal "java/lang/String" "java/lang/String" "coder" "B"] : List Cond), w ∈ lw_tbl
  exact List.forall_mem_cons.mpr ⟨tb_2 194 rfl, List.forall_mem_cons.mpr ⟨tb_2 196 rfl, fun _ h => absurd h List.not_mem_nil⟩⟩
theorem inTJx00060 : ∀ w ∈ u_ws RJx00060 TJx00060 6, w ∈ lw_tbl := by
  show ∀ w ∈ ([.lays "java/lang/ArrayIndexOutOfBoundsException" "java/lang/Throwable" "backtrace" "Ljava/lang/Object;", .lays "java/lang/ArrayIndexOutOfBoundsException" "java/lang/Throwable" "detailMessage" "Ljava/lang/String;", .lays "java/lang/ArrayIndexOutOfBoundsException" "java/lang/Throwable" "cause" "Ljava/lang/Throwable;", .lays "java/lang/ArrayIndexOutOfBoundsException" "java/lang/Throwable" "stackTrace" "[Ljava/lang/StackTraceElement;", .lays "java/lang/ArrayIndexOutOfBoundsException" "java/lang/Throwable" "depth" "I", .lays "java/lang/ArrayIndexOutOfBoundsException" "java/lang/Throwable" "suppressedExceptions" "Ljava/util/List;"] : List Cond), w ∈ lw_tbl
  exact List.forall_mem_cons.mpr ⟨tb_2 182 rfl, List.forall_mem_cons.mpr ⟨tb_2 183 rfl, List.forall_mem_cons.mpr ⟨tb_2 184 rfl, List.forall_mem_cons.mpr ⟨tb_2 185 rfl, List.forall_mem_cons.mpr ⟨tb_2 186 rfl, List.forall_mem_cons.mpr ⟨tb_2 187 rfl, fun _ h => absurd h List.not_mem_nil⟩⟩⟩⟩⟩⟩
theorem inTJx4a65c : ∀ w ∈ u_ws RJx4a65c TJx4a65c 3, w ∈ lw_tbl := fun w h => WA_tbl (inAJx4a65c w h)
theorem inTX0 : ∀ w ∈ u_ws RX0 TX0 4, w ∈ lw_tbl := fun w h => WA_tbl (inAX0 w h)
theorem inTX1 : ∀ w ∈ u_ws RX1 TX1 6, w ∈ lw_tbl := fun w h => WA_tbl (inAX1 w h)
theorem inTX2 : ∀ w ∈ u_ws RX2 TX2 1, w ∈ lw_tbl := fun w h => WA_tbl (inAX2 w h)
theorem inTX3 : ∀ w ∈ u_ws RX3 TX3 8, w ∈ lw_tbl := fun w h => WA_tbl (inAX3 w h)
theorem inTX4 : ∀ w ∈ u_ws RX4 TX4 4, w ∈ lw_tbl := fun w h => WA_tbl (inAX4 w h)
theorem inTX5 : ∀ w ∈ u_ws RX5 TX5 3, w ∈ lw_tbl := fun w h => WA_tbl (inAX5 w h)
theorem inTX6 : ∀ w ∈ u_ws RX6 TX6 4, w ∈ lw_tbl := fun w h => WA_tbl (inAX6 w h)
theorem inTX7 : ∀ w ∈ u_ws RX7 TX7 3, w ∈ lw_tbl := fun w h => WA_tbl (inAX7 w h)
theorem inTX8 : ∀ w ∈ u_ws RX8 TX8 12, w ∈ lw_tbl := fun w h => WA_tbl (inAX8 w h)
theorem inTX9 : ∀ w ∈ u_ws RX9 TX9 49, w ∈ lw_tbl := fun w h => WA_tbl (inAX9 w h)
theorem st_K {args : Array Value} {s : State} (hts : ∀ w ∈ lw_tbl, w.before args s = true) : ∃ (D : va_G) (dA : Nat → ClassId), va_K D vwCl (TY dA) s := by
  obtain ⟨c0, i0, h0⟩ := u_known (C := RJ0) (T := TJ0) (N := 2) (n := 4) hts inTJ0 (hts (.instantiable RJ0 4) (tb_2 193 rfl))
  obtain ⟨c1, i1, h1⟩ := u_known (C := RJx00060) (T := TJx00060) (N := 6) (n := 6) hts inTJx00060 (hts (.instantiable RJx00060 6) (tb_2 175 rfl))
  obtain ⟨c2, i2, h2⟩ := u_known (C := RJx4a65c) (T := TJx4a65c) (N := 3) (n := 3) hts inTJx4a65c (hts (.instantiable RJx4a65c 3) (tb_1 39 rfl))
  obtain ⟨c3, i3, h3⟩ := u_known (C := RX0) (T := TX0) (N := 4) (n := 4) hts inTX0 (hts (.instantiable RX0 4) (tb_2 226 rfl))
  obtain ⟨c4, i4, h4⟩ := u_known (C := RX1) (T := TX1) (N := 6) (n := 6) hts inTX1 (hts (.instantiable RX1 6) (tb_4 46 rfl))
  obtain ⟨c5, i5, h5⟩ := u_known (C := RX2) (T := TX2) (N := 1) (n := 1) hts inTX2 (hts (.instantiable RX2 1) (tb_1 71 rfl))
  obtain ⟨c6, i6, h6⟩ := u_known (C := RX3) (T := TX3) (N := 8) (n := 8) hts inTX3 (hts (.instantiable RX3 8) (tb_1 98 rfl))
  obtain ⟨c7, i7, h7⟩ := u_known (C := RX4) (T := TX4) (N := 4) (n := 4) hts inTX4 (hts (.instantiable RX4 4) (tb_1 65 rfl))
  obtain ⟨c8, i8, h8⟩ := u_known (C := RX5) (T := TX5) (N := 3) (n := 3) hts inTX5 (hts (.instantiable RX5 3) (tb_2 92 rfl))
  obtain ⟨c9, i9, h9⟩ := u_known (C := RX6) (T := TX6) (N := 4) (n := 4) hts inTX6 (hts (.instantiable RX6 4) (tb_2 232 rfl))
  obtain ⟨c10, i10, h10⟩ := u_known (C := RX7) (T := TX7) (N := 3) (n := 3) hts inTX7 (hts (.instantiable RX7 3) (tb_3 221 rfl))
  obtain ⟨c11, i11, h11⟩ := u_known (C := RX8) (T := TX8) (N := 12) (n := 12) hts inTX8 (hts (.instantiable RX8 12) (tb_1 31 rfl))
  obtain ⟨c12, i12, h12⟩ := u_known (C := RX9) (T := TX9) (N := 49) (n := 49) hts inTX9 (hts (.instantiable RX9 49) (tb_5 117 rfl))
  obtain ⟨t0, u0, v0⟩ := ac_ty .int (hts (.arrayClass .int) (tb_1 80 rfl))
  obtain ⟨t1, u1, v1⟩ := ac_ty .char (hts (.arrayClass .char) (tb_6 30 rfl))
  obtain ⟨t2, u2, v2⟩ := ac_ty .boolean (hts (.arrayClass .boolean) (tb_6 31 rfl))
  obtain ⟨t3, u3, v3⟩ := ac_ty .long (hts (.arrayClass .long) (tb_6 32 rfl))
  obtain ⟨t4, u4, v4⟩ := ac_ty .double (hts (.arrayClass .double) (tb_7 90 rfl))
  obtain ⟨t5, u5, v5⟩ := ac_ob (C := "java/lang/Object") (hts (.arrayOver (.object "java/lang/Object")) (tb_2 161 rfl))
  refine ⟨(fun k => match k with | 0 => c0 | 1 => c1 | 2 => c2 | 3 => c3 | 4 => c4 | 5 => c5 | 6 => c6 | 7 => c7 | 8 => c8 | 9 => c9 | 10 => c10 | 11 => c11 | _ => c12, fun k => match k with | 0 => i0 | 1 => i1 | 2 => i2 | 3 => i3 | 4 => i4 | 5 => i5 | 6 => i6 | 7 => i7 | 8 => i8 | 9 => i9 | 10 => i10 | 11 => i11 | _ => i12), fun k => match k with | 0 => t0 | 1 => t1 | 2 => t2 | 3 => t3 | 4 => t4 | _ => t5, fun k q hq => ?_, fun k q hq => ?_⟩
  · match k, hq with
    | 0, hq => cases hq; exact h0
    | 1, hq => cases hq; exact h1
    | 2, hq => cases hq; exact h2
    | 3, hq => cases hq; exact h3
    | 4, hq => cases hq; exact h4
    | 5, hq => cases hq; exact h5
    | 6, hq => cases hq; exact h6
    | 7, hq => cases hq; exact h7
    | 8, hq => cases hq; exact h8
    | 9, hq => cases hq; exact h9
    | 10, hq => cases hq; exact h10
    | 11, hq => cases hq; exact h11
    | 12, hq => cases hq; exact h12
    | k + 13, hq => simp [vwCl] at hq
  · match k, hq with
    | 0, hq => cases hq; exact ⟨u0, v0⟩
    | 1, hq => cases hq; exact ⟨u1, v1⟩
    | 2, hq => cases hq; exact ⟨u2, v2⟩
    | 3, hq => cases hq; exact ⟨u3, v3⟩
    | 4, hq => cases hq; exact ⟨u4, v4⟩
    | 5, hq => cases hq; exact ⟨u5, v5⟩
    | k + 6, hq => simp [TY] at hq
theorem st_str {args : Array Value} {s : State} {own tx : String} {k : Nat} (h1 : (Cond.stringRef own k tx).before args s = true) (h2 : (Cond.exactly (.string own k) "java/lang/String").before args s = true) : ∃ a, vk_R own k tx a s := by
  obtain ⟨a, c, cell, k9, q1, -⟩ := Cond.exactly_spec h2
  exact ⟨a, vk_R.of h1 q1⟩
theorem st_S {args : Array Value} {s : State} (hts : ∀ w ∈ lw_tbl, w.before args s = true) (hgv : ∀ w ∈ flatC (Jvm.Cond.and given_1 narrow_1), w.before args s = true) : ZS s := by
  exact ⟨(List.forall_mem_cons.mpr ⟨va_Nw.of rfl (hts _ (tb_2 6 rfl)), List.forall_mem_cons.mpr ⟨va_Nw.of rfl (hts _ (tb_2 77 rfl)), List.forall_mem_cons.mpr ⟨va_Nw.of rfl (hts _ (tb_2 189 rfl)), List.forall_mem_cons.mpr ⟨va_Nw.of rfl (hts _ (tb_2 212 rfl)), List.forall_mem_cons.mpr ⟨va_Nw.of rfl (hts _ (tb_4 194 rfl)), List.forall_mem_cons.mpr ⟨va_Nw.of rfl (hts _ (tb_5 91 rfl)), List.forall_mem_cons.mpr ⟨va_Nw.of rfl (hts _ (tb_7 92 rfl)), List.forall_mem_cons.mpr ⟨va_Nw.of rfl (hts _ (tb_7 93 rfl)), List.forall_mem_cons.mpr ⟨va_Nw.of rfl (hts _ (tb_7 94 rfl)), List.forall_mem_cons.mpr ⟨va_Nw.of rfl (hts _ (tb_7 95 rfl)), List.forall_mem_cons.mpr ⟨va_Nw.of rfl (hts _ (tb_7 96 rfl)), List.forall_mem_cons.mpr ⟨va_Nw.of rfl (hts _ (tb_7 97 rfl)), List.forall_mem_cons.mpr ⟨va_Nw.of rfl (hts _ (tb_7 98 rfl)), List.forall_mem_cons.mpr ⟨va_Nw.of rfl (hts _ (tb_7 99 rfl)), List.forall_mem_cons.mpr ⟨va_Nw.of rfl (hts _ (tb_7 100 rfl)), List.forall_mem_cons.mpr ⟨va_Nw.of rfl (hts _ (tb_7 101 rfl)), List.forall_mem_cons.mpr ⟨va_Nw.of rfl (hts _ (tb_7 102 rfl)), List.forall_mem_cons.mpr ⟨va_Nw.of rfl (hts _ (tb_7 103 rfl)), List.forall_mem_cons.mpr ⟨va_Nw.of rfl (hts _ (tb_7 104 rfl)), List.forall_mem_cons.mpr ⟨va_Nw.of rfl (hts _ (tb_7 105 rfl)), List.forall_mem_cons.mpr ⟨va_Nw.of rfl (hts _ (tb_7 106 rfl)), List.forall_mem_cons.mpr ⟨va_Nw.of rfl (hts _ (tb_7 107 rfl)), List.forall_mem_cons.mpr ⟨va_Nw.of rfl (hts _ (tb_7 108 rfl)), List.forall_mem_cons.mpr ⟨va_Nw.of rfl (hts _ (tb_7 109 rfl)), List.forall_mem_cons.mpr ⟨va_Nw.of rfl (hts _ (tb_7 110 rfl)), List.forall_mem_cons.mpr ⟨va_Nw.of rfl (hts _ (tb_7 111 rfl)), List.forall_mem_cons.mpr ⟨va_Nw.of rfl (hts _ (tb_7 115 rfl)), List.forall_mem_cons.mpr ⟨va_Nw.of rfl (hts _ (tb_7 116 rfl)), List.forall_mem_cons.mpr ⟨va_Nw.of rfl (hts _ (tb_7 117 rfl)), List.forall_mem_cons.mpr ⟨va_Nw.of rfl (hts _ (tb_7 118 rfl)), List.forall_mem_cons.mpr ⟨va_Nw.of rfl (hts _ (tb_7 119 rfl)), List.forall_mem_cons.mpr ⟨va_Nw.of rfl (hts _ (tb_7 120 rfl)), List.forall_mem_cons.mpr ⟨va_Nw.of rfl (hts _ (tb_7 121 rfl)), fun _ h9 => absurd h9 List.not_mem_nil⟩⟩⟩⟩⟩⟩⟩⟩⟩⟩⟩⟩⟩⟩⟩⟩⟩⟩⟩⟩⟩⟩⟩⟩⟩⟩⟩⟩⟩⟩⟩⟩⟩), (List.forall_mem_cons.mpr ⟨va_Nw.of rfl (hts _ (tb_2 7 rfl)), List.forall_mem_cons.mpr ⟨va_Nw.of rfl (hts _ (tb_2 8 rfl)), List.forall_mem_cons.mpr ⟨va_Nw.of rfl (hts _ (tb_2 9 rfl)), List.forall_mem_cons.mpr ⟨va_Nw.of rfl (hts _ (tb_2 10 rfl)), List.forall_mem_cons.mpr ⟨va_Nw.of rfl (hts _ (tb_2 11 rfl)), List.forall_mem_cons.mpr ⟨va_Nw.of rfl (hts _ (tb_2 12 rfl)), List.forall_mem_cons.mpr ⟨va_Nw.of rfl (hts _ (tb_2 190 rfl)), List.forall_mem_cons.mpr ⟨va_Nw.of rfl (hts _ (tb_2 191 rfl)), List.forall_mem_cons.mpr ⟨va_Nw.of rfl (hts _ (tb_7 114 rfl)), fun _ h9 => absurd h9 List.not_mem_nil⟩⟩⟩⟩⟩⟩⟩⟩⟩), (List.forall_mem_cons.mpr ⟨va_Nw.of rfl (hts _ (tb_1 85 rfl)), List.forall_mem_cons.mpr ⟨va_Nw.of rfl (hts _ (tb_1 113 rfl)), List.forall_mem_cons.mpr ⟨va_Nw.of rfl (hts _ (tb_3 0 rfl)), List.forall_mem_cons.mpr ⟨va_Nw.of rfl (hts _ (tb_3 2 rfl)), List.forall_mem_cons.mpr ⟨va_Nw.of rfl (hts _ (tb_3 4 rfl)), List.forall_mem_cons.mpr ⟨va_Nw.of rfl (hts _ (tb_3 6 rfl)), List.forall_mem_cons.mpr ⟨va_Nw.of rfl (hts _ (tb_3 7 rfl)), List.forall_mem_cons.mpr ⟨va_Nw.of rfl (hts _ (tb_3 8 rfl)), List.forall_mem_cons.mpr ⟨va_Nw.of rfl (hts _ (tb_3 19 rfl)), List.forall_mem_cons.mpr ⟨va_Nw.of rfl (hts _ (tb_3 21 rfl)), List.forall_mem_cons.mpr ⟨va_Nw.of rfl (hts _ (tb_3 23 rfl)), List.forall_mem_cons.mpr ⟨va_Nw.of rfl (hts _ (tb_3 24 rfl)), List.forall_mem_cons.mpr ⟨va_Nw.of rfl (hts _ (tb_3 25 rfl)), List.forall_mem_cons.mpr ⟨va_Nw.of rfl (hts _ (tb_3 26 rfl)), List.forall_mem_cons.mpr ⟨va_Nw.of rfl (hts _ (tb_3 227 rfl)), List.forall_mem_cons.mpr ⟨va_Nw.of rfl (hts _ (tb_3 230 rfl)), List.forall_mem_cons.mpr ⟨va_Nw.of rfl (hts _ (tb_3 231 rfl)), List.forall_mem_cons.mpr ⟨va_Nw.of rfl (hts _ (tb_4 53 rfl)), List.forall_mem_cons.mpr ⟨va_Nw.of rfl (hts _ (tb_4 55 rfl)), List.forall_mem_cons.mpr ⟨va_Nw.of rfl (hts _ (tb_4 59 rfl)), fun _ h9 => absurd h9 List.not_mem_nil⟩⟩⟩⟩⟩⟩⟩⟩⟩⟩⟩⟩⟩⟩⟩⟩⟩⟩⟩⟩), (List.forall_mem_cons.mpr ⟨va_Nw.of rfl (hts _ (tb_1 66 rfl)), List.forall_mem_cons.mpr ⟨va_Nw.of rfl (hts _ (tb_1 99 rfl)), List.forall_mem_cons.mpr ⟨va_Nw.of rfl (hts _ (tb_2 1 rfl)), List.forall_mem_cons.mpr ⟨va_Nw.of rfl (hts _ (tb_2 233 rfl)), List.forall_mem_cons.mpr ⟨va_Nw.of rfl (hts _ (tb_4 41 rfl)), fun _ h9 => absurd h9 List.not_mem_nil⟩⟩⟩⟩⟩), (List.forall_mem_cons.mpr ⟨st_str (hts (.stringRef "TallowIndex" 59 "no such kind or word") (tb_2 48 rfl)) (hgv (.exactly (.string "TallowIndex" 59) "java/lang/String") (by decide +kernel)), List.forall_mem_cons.mpr ⟨st_str (hts (.stringRef "TallowIndex" 70 "all steps are told") (tb_2 84 rfl)) (hgv (.exactly (.string "TallowIndex" 70) "java/lang/String") (by decide +kernel)), List.forall_mem_cons.mpr ⟨st_str (hts (.stringRef "TallowIndex" 313 "no such tag") (tb_2 205 rfl)) (hgv (.exactly (.string "TallowIndex" 313) "java/lang/String") (by decide +kernel)), List.forall_mem_cons.mpr ⟨st_str (hts (.stringRef "TallowIndex" 315 "no such document") (tb_2 219 rfl)) (hgv (.exactly (.string "TallowIndex" 315) "java/lang/String") (by decide +kernel)), List.forall_mem_cons.mpr ⟨st_str (hts (.stringRef "TallowIndex" 93 "a text is open") (tb_2 223 rfl)) (hgv (.exactly (.string "TallowIndex" 93) "java/lang/String") (by decide +kernel)), List.forall_mem_cons.mpr ⟨st_str (hts (.stringRef "TallowIndex" 95 "all documents are numbered") (tb_2 224 rfl)) (hgv (.exactly (.string "TallowIndex" 95) "java/lang/String") (by decide +kernel)), List.forall_mem_cons.mpr ⟨st_str (hts (.stringRef "TallowIndex" 106 "no such word") (tb_3 44 rfl)) (hgv (.exactly (.string "TallowIndex" 106) "java/lang/String") (by decide +kernel)), List.forall_mem_cons.mpr ⟨st_str (hts (.stringRef "TallowIndex" 108 "no text is open") (tb_3 45 rfl)) (hgv (.exactly (.string "TallowIndex" 108) "java/lang/String") (by decide +kernel)), List.forall_mem_cons.mpr ⟨st_str (hts (.stringRef "TallowIndex" 120 "the text is full") (tb_3 46 rfl)) (hgv (.exactly (.string "TallowIndex" 120) "java/lang/String") (by decide +kernel)), List.forall_mem_cons.mpr ⟨st_str (hts (.stringRef "TallowIndex" 144 "the document is removed or lost") (tb_3 125 rfl)) (hgv (.exactly (.string "TallowIndex" 144) "java/lang/String") (by decide +kernel)), List.forall_mem_cons.mpr ⟨st_str (hts (.stringRef "TallowIndex" 168 "no such segment") (tb_3 167 rfl)) (hgv (.exactly (.string "TallowIndex" 168) "java/lang/String") (by decide +kernel)), List.forall_mem_cons.mpr ⟨st_str (hts (.stringRef "TallowIndex" 175 "no next segment") (tb_3 179 rfl)) (hgv (.exactly (.string "TallowIndex" 175) "java/lang/String") (by decide +kernel)), List.forall_mem_cons.mpr ⟨st_str (hts (.stringRef "TallowIndex" 191 "nothing was committed") (tb_3 195 rfl)) (hgv (.exactly (.string "TallowIndex" 191) "java/lang/String") (by decide +kernel)), List.forall_mem_cons.mpr ⟨st_str (hts (.stringRef "TallowIndex" 199 "all views are open") (tb_3 219 rfl)) (hgv (.exactly (.string "TallowIndex" 199) "java/lang/String") (by decide +kernel)), List.forall_mem_cons.mpr ⟨st_str (hts (.stringRef "TallowIndex" 212 "no such open view") (tb_4 10 rfl)) (hgv (.exactly (.string "TallowIndex" 212) "java/lang/String") (by decide +kernel)), List.forall_mem_cons.mpr ⟨st_str (hts (.stringRef "TallowIndex" 228 "no such kind, word or distance") (tb_4 42 rfl)) (hgv (.exactly (.string "TallowIndex" 228) "java/lang/String") (by decide +kernel)), List.forall_mem_cons.mpr ⟨st_str (hts (.stringRef "TallowIndex" 230 "no such weight") (tb_4 43 rfl)) (hgv (.exactly (.string "TallowIndex" 230) "java/lang/String") (by decide +kernel)), List.forall_mem_cons.mpr ⟨st_str (hts (.stringRef "TallowIndex" 232 "all queries are numbered") (tb_4 44 rfl)) (hgv (.exactly (.string "TallowIndex" 232) "java/lang/String") (by decide +kernel)), List.forall_mem_cons.mpr ⟨st_str (hts (.stringRef "TallowIndex" 241 "no such kind") (tb_4 83 rfl)) (hgv (.exactly (.string "TallowIndex" 241) "java/lang/String") (by decide +kernel)), List.forall_mem_cons.mpr ⟨st_str (hts (.stringRef "TallowIndex" 317 "no such query") (tb_4 88 rfl)) (hgv (.exactly (.string "TallowIndex" 317) "java/lang/String") (by decide +kernel)), List.forall_mem_cons.mpr ⟨st_str (hts (.stringRef "TallowIndex" 249 "too many queries of words") (tb_4 89 rfl)) (hgv (.exactly (.string "TallowIndex" 249) "java/lang/String") (by decide +kernel)), List.forall_mem_cons.mpr ⟨st_str (hts (.stringRef "TallowIndex" 326 "no such hit") (tb_4 201 rfl)) (hgv (.exactly (.string "TallowIndex" 326) "java/lang/String") (by decide +kernel)), List.forall_mem_cons.mpr ⟨st_str (hts (.stringRef "TallowIndex$View" 32 "the document is not in the view") (tb_4 233 rfl)) (hgv (.exactly (.string "TallowIndex$View" 32) "java/lang/String") (by decide +kernel)), List.forall_mem_cons.mpr ⟨st_str (hts (.stringRef "TallowIndex" 275 "no hit has the tag") (tb_5 13 rfl)) (hgv (.exactly (.string "TallowIndex" 275) "java/lang/String") (by decide +kernel)), List.forall_mem_cons.mpr ⟨st_str (hts (.stringRef "TallowIndex" 284 "it is the whole of no hit") (tb_5 33 rfl)) (hgv (.exactly (.string "TallowIndex" 284) "java/lang/String") (by decide +kernel)), List.forall_mem_cons.mpr ⟨st_str (hts (.stringRef "TallowIndex" 290 "no such number") (tb_5 53 rfl)) (hgv (.exactly (.string "TallowIndex" 290) "java/lang/String") (by decide +kernel)), List.forall_mem_cons.mpr ⟨st_str (hts (.stringRef "TallowIndex" 295 "the bound is out of range") (tb_5 68 rfl)) (hgv (.exactly (.string "TallowIndex" 295) "java/lang/String") (by decide +kernel)), List.forall_mem_cons.mpr ⟨st_str (hts (.stringRef "TallowIndex" 305 "no documents are in segments") (tb_5 102 rfl)) (hgv (.exactly (.string "TallowIndex" 305) "java/lang/String") (by decide +kernel)), List.forall_mem_cons.mpr ⟨st_str (hts (.stringRef "TallowIndex" 311 "the view has no documents") (tb_5 115 rfl)) (hgv (.exactly (.string "TallowIndex" 311) "java/lang/String") (by decide +kernel)), fun _ h9 => absurd h9 List.not_mem_nil⟩⟩⟩⟩⟩⟩⟩⟩⟩⟩⟩⟩⟩⟩⟩⟩⟩⟩⟩⟩⟩⟩⟩⟩⟩⟩⟩⟩⟩), va_AO.of (hts (.arrayOver (.object "java/lang/Object")) (tb_2 161 rfl)), (List.forall_mem_cons.mpr ⟨va_Nc.of (hgv (.not (.castable "java/lang/IllegalStateException" "java/lang/IllegalArgumentException")) (by decide +kernel)), List.forall_mem_cons.mpr ⟨va_Nc.of (hgv (.not (.castable "java/lang/IndexOutOfBoundsException" "java/lang/IllegalArgumentException")) (by decide +kernel)), List.forall_mem_cons.mpr ⟨va_Nc.of (hgv (.not (.castable "java/util/NoSuchElementException" "java/lang/IllegalArgumentException")) (by decide +kernel)), List.forall_mem_cons.mpr ⟨va_Nc.of (hgv (.not (.castable "java/lang/ArithmeticException" "java/lang/IllegalArgumentException")) (by decide +kernel)), List.forall_mem_cons.mpr ⟨va_Nc.of (hgv (.not (.castable "java/lang/IllegalArgumentException" "java/lang/IllegalStateException")) (by decide +kernel)), List.forall_mem_cons.mpr ⟨va_Nc.of (hgv (.not (.castable "java/lang/IndexOutOfBoundsException" "java/lang/IllegalStateException")) (by decide +kernel)), List.forall_mem_cons.mpr ⟨va_Nc.of (hgv (.not (.castable "java/util/NoSuchElementException" "java/lang/IllegalStateException")) (by decide +kernel)), List.forall_mem_cons.mpr ⟨va_Nc.of (hgv (.not (.castable "java/lang/ArithmeticException" "java/lang/IllegalStateException")) (by decide +kernel)), List.forall_mem_cons.mpr ⟨va_Nc.of (hgv (.not (.castable "java/lang/IllegalArgumentException" "java/lang/IndexOutOfBoundsException")) (by decide +kernel)), List.forall_mem_cons.mpr ⟨va_Nc.of (hgv (.not (.castable "java/lang/IllegalStateException" "java/lang/IndexOutOfBoundsException")) (by decide +kernel)), List.forall_mem_cons.mpr ⟨va_Nc.of (hgv (.not (.castable "java/util/NoSuchElementException" "java/lang/IndexOutOfBoundsException")) (by decide +kernel)), List.forall_mem_cons.mpr ⟨va_Nc.of (hgv (.not (.castable "java/lang/ArithmeticException" "java/lang/IndexOutOfBoundsException")) (by decide +kernel)), List.forall_mem_cons.mpr ⟨va_Nc.of (hgv (.not (.castable "java/lang/IllegalArgumentException" "java/util/NoSuchElementException")) (by decide +kernel)), List.forall_mem_cons.mpr ⟨va_Nc.of (hgv (.not (.castable "java/lang/IllegalStateException" "java/util/NoSuchElementException")) (by decide +kernel)), List.forall_mem_cons.mpr ⟨va_Nc.of (hgv (.not (.castable "java/lang/IndexOutOfBoundsException" "java/util/NoSuchElementException")) (by decide +kernel)), List.forall_mem_cons.mpr ⟨va_Nc.of (hgv (.not (.castable "java/lang/ArithmeticException" "java/util/NoSuchElementException")) (by decide +kernel)), List.forall_mem_cons.mpr ⟨va_Nc.of (hgv (.not (.castable "java/lang/IllegalArgumentException" "java/lang/ArithmeticException")) (by decide +kernel)), List.forall_mem_cons.mpr ⟨va_Nc.of (hgv (.not (.castable "java/lang/IllegalStateException" "java/lang/ArithmeticException")) (by decide +kernel)), List.forall_mem_cons.mpr ⟨va_Nc.of (hgv (.not (.castable "java/lang/IndexOutOfBoundsException" "java/lang/ArithmeticException")) (by decide +kernel)), List.forall_mem_cons.mpr ⟨va_Nc.of (hgv (.not (.castable "java/util/NoSuchElementException" "java/lang/ArithmeticException")) (by decide +kernel)), fun _ h9 => absurd h9 List.not_mem_nil⟩⟩⟩⟩⟩⟩⟩⟩⟩⟩⟩⟩⟩⟩⟩⟩⟩⟩⟩⟩)⟩
theorem st_Z {args : Array Value} {s : State} (dA : Nat → ClassId) (hts : ∀ w ∈ lw_tbl, w.before args s = true) (hgv : ∀ w ∈ flatC (Jvm.Cond.and given_1 narrow_1), w.before args s = true) : ∃ E : Nat, ZZ dA E (fun q : Nat => s.heap.size ≤ q) s s.heap := by
  have hA : ∀ a : Nat, a < s.heap.size → ¬ (fun q : Nat => s.heap.size ≤ q) a := fun a h9 => Nat.not_le.mpr h9
  obtain ⟨E, hE, hT⟩ := va_Tof (f := fun _ => .null) (N := 0) (A := fun q : Nat => s.heap.size ≤ q) (by decide) (hgv (.arrayOf (.static "java/util/ArrayList" "DEFAULTCAPACITY_EMPTY_ELEMENTDATA" "[Ljava/lang/Object;") (.object "java/lang/Object")) (by decide +kernel)) (va_eqt (hgv (.eq (.length (.static "java/util/ArrayList" "DEFAULTCAPACITY_EMPTY_ELEMENTDATA" "[Ljava/lang/Object;")) (.int 0)) (by decide +kernel))) (fun j hj => absurd hj (Nat.not_lt_zero j)) hA
  exact ⟨E, st_S hts hgv, vx_Zqof (hts (.laysStatic "java/lang/Throwable" "UNASSIGNED_STACK" "[Ljava/lang/StackTraceElement;") (tb_2 31 rfl)) (hts (.initialized "java/lang/Throwable") (tb_1 10 rfl)) (hgv (.isRef (.static "java/lang/Throwable" "UNASSIGNED_STACK" "[Ljava/lang/StackTraceElement;")) (by decide +kernel)) hA, vx_Zqof (hts (.laysStatic "java/lang/Throwable" "SUPPRESSED_SENTINEL" "Ljava/util/List;") (tb_2 33 rfl)) (hts (.initialized "java/lang/Throwable") (tb_1 10 rfl)) (hgv (.isRef (.static "java/lang/Throwable" "SUPPRESSED_SENTINEL" "Ljava/util/List;")) (by decide +kernel)) hA, va_Zref (hts (.laysStatic "java/util/ArrayList" "DEFAULTCAPACITY_EMPTY_ELEMENTDATA" "[Ljava/lang/Object;") (tb_1 51 rfl)) (hts (.initialized "java/util/ArrayList") (tb_1 4 rfl)) hE hA, hT⟩
theorem len_lt {L : Nat} (h : L < 6) : Int32.ofNat L - 6 < 0 := by
  rcases (show L = 0 ∨ L = 1 ∨ L = 2 ∨ L = 3 ∨ L = 4 ∨ L = 5 by omega) with rfl | rfl | rfl | rfl | rfl | rfl <;> decide
theorem law_tail {p : Program} {e : Env} {s : State} {m : MethodId} {below : List Frame} {meth : Method} {c : Code} (l : Launch) {bs L : Nat} {xs : Nat → Int32} (C0 : lw_At p s m meth c bs L xs) (hL6 : L = 6) {H : Heap} {locs : List Loc} {cells slots : Nat} (hS : va_S (fun q : Nat => s.heap.size ≤ q) s.heap H locs) (h1 : cells ≤ 600006) (h2 : slots ≤ 7302064) (ls : Array Slot) (hl : lv_has ls 9 [(0, .ref bs), (5, .int 0)]) : W p l e room_1 s m #[Value.ref bs] below meth c H locs cells slots (lw_Z below #[Value.ref bs] s) (F0 m 2346 ls []) := by
  subst hL6
  obtain ⟨hx, hb, hr, hml, hown, hts0, hX, hbl, hlocks, hgv⟩ := id C0
  have hbA : ¬ (fun q : Nat => s.heap.size ≤ q) bs := Nat.not_le.mpr hbl
  refine lv_iinc (v := 6) (lv' := [(5, .int 6), (0, .ref bs)]) hx hb dL_law_2346 hl (k := 1) rfl (by decide) (by decide) rfl (fun ls hl => ?_)
  refine lv_goto (tgt := 28) hx hb dL_law_2349 (by decide) ?_
  refine lv_iload hx hb dL_law_28 (lv_at hl 0 rfl) ?_
  refine lv_aload_n hx hb dL_law_30 rfl (lv_at hl 1 rfl) ?_
  refine va_slen hx hb hX hbl hbA hS dL_law_31 ?_
  refine lv_bipush (v := 6) hx hb dL_law_32 (by decide) ?_
  refine lv_isub hx hb dL_law_34 ?_
  refine lv_icmp_gt (tgt := 2352) hx hb dL_law_35 (by decide) (fun _ => ?_) (fun h9 => absurd (by decide) h9)
  refine lv_iconst (v := 1) hx hb dL_law_2352 (by decide) ?_
  refine va_forget (fun q hq => hS.2.2 q hq) ?_
  refine W.widen (k := 600006) (n := 7302064) h1 h2 ?_
  refine W.base ?_
  exact lw_ret (Drawn.sameBut.refl s.drawn lw_cs) hx hb hr hlocks dL_law_2353
