set_option maxRecDepth 20000 in
theorem ggL_law_X8_odds : GoodIn wsL_law wsX8_odds := goodIn_r _ [495, 34, 481, 483, 482, 250, 251, 252, 2, 253, 112, 13, 120, 121, 122, 359, 346, 347, 114, 348, 176, 349, 350, 496, 356, 357, 19, 358, 276, 277, 497, 352, 353, 354, 498, 499, 500, 659, 660, 661, 662, 663, 664, 665, 666, 667, 668, 669, 670, 671, 672, 710, 711, 712, 713, 714, 715, 716, 717, 730, 731, 732, 733, 734, 735, 736, 737, 738, 739, 740, 741, 742, 743, 744, 745, 746] (by decide +kernel) (by decide +kernel)
set_option maxRecDepth 20000 in
theorem gL_law_X8_odds : GoodIn wsL_law (wsV RL 52 RX8 yX8_odds wsX8_odds) := goodIn_app (goodIn_of _ (by decide +kernel)) ggL_law_X8_odds
set_option maxRecDepth 20000 in
theorem ggL_law_X9_odds : GoodIn wsL_law wsX9_odds := goodIn_r _ [504, 449, 458, 448, 284, 285, 286, 5, 287, 214, 104, 105, 106, 450, 451, 452, 453, 72, 67, 454, 455, 456, 457, 75, 220, 221, 222, 673, 674, 675, 676, 677, 678, 679, 680, 681, 682, 683, 684, 685, 686, 687, 688, 689, 690, 691, 692, 693, 694, 695, 696, 697, 698, 699, 700, 701, 702, 703, 704, 705, 706, 707, 708, 709] (by decide +kernel) (by decide +kernel)
set_option maxRecDepth 20000 in
theorem gL_law_X9_odds : GoodIn wsL_law (wsV RL 55 RX9 yX9_odds wsX9_odds) := goodIn_app (goodIn_of _ (by decide +kernel)) ggL_law_X9_odds
set_option maxRecDepth 20000 in
theorem ggL_law_X8_order : GoodIn wsL_law wsX8_order := goodIn_r _ [508, 509, 368, 369, 370, 2, 371, 119, 28, 13, 112, 24, 34, 372, 373, 374, 27, 375, 376, 377, 378, 379, 380, 179, 381, 382, 383, 384, 385, 132, 133, 114, 134, 135, 136, 137, 138, 139, 140, 141, 142, 143, 144, 145, 386, 387, 388, 389, 390, 391, 392, 393, 394, 395, 396, 397, 398, 399, 23, 400, 299, 310, 311, 312, 313, 303, 304, 305, 306, 307, 308, 309, 300, 47, 314, 315, 401, 402, 403, 404, 170, 405, 406, 407, 408, 409, 410, 411, 412, 413, 121, 122, 414, 415, 416, 417, 418, 342, 343, 344, 175, 345, 346, 347, 348, 176, 349, 350, 351, 352, 353, 19, 354, 276, 355, 356, 357, 358, 277, 419, 420, 421, 422, 423, 424, 425, 426, 427, 428, 429, 430, 431, 432, 433, 434, 52, 435, 436, 437, 438, 185, 510, 511, 512, 513, 747, 748, 749, 750, 659, 660, 661, 662, 663, 664, 665, 666, 667, 668, 669, 670, 671, 672, 730, 731, 732, 733, 734, 735, 736, 737, 738, 739, 740, 741, 742, 743, 744, 745, 746, 754, 755, 756, 718, 719, 710, 711, 712, 713, 714, 715, 716, 717, 720, 721] (by decide +kernel) (by decide +kernel)
set_option maxRecDepth 20000 in
theorem gL_law_X8_order : GoodIn wsL_law (wsV RL 56 RX8 yX8_order wsX8_order) := goodIn_app (goodIn_of _ (by decide +kernel)) ggL_law_X8_order
set_option maxRecDepth 20000 in
theorem ggL_law_X9_order : GoodIn wsL_law wsX9_order := goodIn_r _ [517, 465, 89, 459, 460, 461, 5, 462, 214, 87, 88, 463, 304, 305, 306, 464, 308, 309, 216, 217, 218, 219, 75, 79, 80, 444, 445, 446, 447, 448, 73, 449, 450, 451, 452, 453, 72, 67, 454, 455, 456, 457, 458, 220, 221, 222, 466, 467, 468, 469, 86, 71, 68, 470, 471, 472, 328, 329, 330, 331, 327, 84, 85, 473, 474, 475, 476, 104, 105, 106, 673, 674, 675, 676, 677, 678, 679, 680, 681, 682, 683, 684, 685, 686, 687, 688, 689, 690, 691, 692, 693, 694, 695, 696, 697, 698, 699, 700, 701, 702, 703, 704, 705, 706, 707, 708, 709] (by decide +kernel) (by decide +kernel)
set_option maxRecDepth 20000 in
theorem gL_law_X9_order : GoodIn wsL_law (wsV RL 59 RX9 yX9_order wsX9_order) := goodIn_app (goodIn_of _ (by decide +kernel)) ggL_law_X9_order
set_option maxRecDepth 20000 in
theorem ggL_law_X8_caseOf : GoodIn wsL_law wsX8_caseOf := goodIn_r _ [521, 522, 523, 524, 525, 526, 368, 369, 370, 2, 371, 119, 28, 13, 112, 24, 34, 372, 373, 374, 27, 375, 376, 377, 378, 379, 380, 179, 381, 382, 383, 384, 385, 132, 133, 114, 134, 135, 136, 137, 138, 139, 140, 141, 142, 143, 144, 145, 386, 387, 388, 389, 390, 391, 392, 393, 394, 395, 396, 397, 398, 399, 23, 400, 299, 310, 311, 312, 313, 303, 304, 305, 306, 307, 308, 309, 300, 47, 314, 315, 401, 402, 403, 404, 170, 405, 406, 407, 408, 409, 410, 411, 412, 413, 121, 122, 414, 415, 416, 417, 418, 342, 343, 344, 175, 345, 346, 347, 348, 176, 349, 350, 351, 352, 353, 19, 354, 276, 355, 356, 357, 358, 277, 419, 420, 421, 422, 423, 424, 425, 426, 427, 428, 429, 430, 431, 432, 433, 434, 52, 435, 436, 437, 438, 185, 250, 251, 252, 253, 120, 131, 527, 528, 529, 530, 340, 278, 279, 531, 532, 533, 534, 111, 439, 730, 731, 732, 733, 734, 735, 736, 737, 738, 739, 740, 741, 742, 743, 744, 745, 746, 747, 748, 749, 750, 659, 660, 661, 662, 663, 664, 665, 666, 667, 668, 669, 670, 671, 672, 754, 755, 756, 718, 719, 710, 711, 712, 713, 714, 715, 716, 717, 720, 721] (by decide +kernel) (by decide +kernel)
set_option maxRecDepth 20000 in
theorem gL_law_X8_caseOf : GoodIn wsL_law (wsV RL 60 RX8 yX8_caseOf wsX8_caseOf) := goodIn_app (goodIn_of _ (by decide +kernel)) ggL_law_X8_caseOf
set_option maxRecDepth 20000 in
theorem ggL_law_X9_caseOf : GoodIn wsL_law wsX9_caseOf := goodIn_r _ [538, 87, 214, 284, 285, 286, 5, 287, 104, 105, 106, 459, 460, 461, 462, 88, 463, 304, 305, 306, 464, 308, 309, 465, 89, 216, 217, 218, 219, 75, 79, 80, 444, 445, 446, 447, 448, 73, 449, 450, 451, 452, 453, 72, 67, 454, 455, 456, 457, 458, 220, 221, 222, 466, 467, 468, 469, 86, 71, 68, 470, 471, 472, 328, 329, 330, 331, 327, 84, 85, 473, 474, 475, 476, 539, 540, 541, 542, 543, 544, 545, 546, 547, 548, 549, 550, 673, 674, 675, 676, 677, 678, 679, 680, 681, 682, 683, 684, 685, 686, 687, 688, 689, 690, 691, 692, 693, 694, 695, 696, 697, 698, 699, 700, 701, 702, 703, 704, 705, 706, 707, 708, 709] (by decide +kernel) (by decide +kernel)
set_option maxRecDepth 20000 in
theorem gL_law_X9_caseOf : GoodIn wsL_law (wsV RL 63 RX9 yX9_caseOf wsX9_caseOf) := goodIn_app (goodIn_of _ (by decide +kernel)) ggL_law_X9_caseOf
set_option maxRecDepth 20000 in
theorem ggL_law_X8_slow : GoodIn wsL_law wsX8_slow := goodIn_r _ [554, 14, 98, 203, 34, 118, 120, 121, 2, 122, 131, 132, 133, 114, 134, 135, 136, 137, 138, 139, 140, 141, 142, 143, 144, 145, 341, 342, 343, 344, 175, 345, 346, 347, 348, 176, 349, 350, 351, 352, 353, 19, 354, 276, 355, 356, 357, 358, 277, 659, 660, 661, 662, 663, 664, 665, 666, 667, 668, 669, 670, 671, 672, 730, 731, 732, 733, 734, 735, 736, 737, 738, 739, 740, 741, 742, 743, 744, 745, 746, 710, 711, 712, 713, 714, 715, 716, 717] (by decide +kernel) (by decide +kernel)
set_option maxRecDepth 20000 in
theorem gL_law_X8_slow : GoodIn wsL_law (wsV RL 64 RX8 yX8_slow wsX8_slow) := goodIn_app (goodIn_of _ (by decide +kernel)) ggL_law_X8_slow
set_option maxRecDepth 20000 in
theorem ggL_law_X9_slow : GoodIn wsL_law wsX9_slow := goodIn_r _ [558, 214, 71, 103, 68, 104, 105, 5, 106, 216, 217, 218, 219, 75, 79, 80, 444, 445, 446, 447, 448, 73, 449, 450, 451, 452, 453, 72, 67, 454, 455, 456, 457, 458, 220, 221, 222, 673, 674, 675, 676, 677, 678, 679, 680, 681, 682, 683, 684, 685, 686, 687, 688, 689, 690, 691, 692, 693, 694, 695, 696, 697, 698, 699, 700, 701, 702, 703, 704, 705, 706, 707, 708, 709] (by decide +kernel) (by decide +kernel)
set_option maxRecDepth 20000 in
theorem gL_law_X9_slow : GoodIn wsL_law (wsV RL 67 RX9 yX9_slow wsX9_slow) := goodIn_app (goodIn_of _ (by decide +kernel)) ggL_law_X9_slow
theorem dL_law_458 : decode cL_law 458 = .ok (.aload_n 1, 1) := dc43 (by decide +kernel)
theorem dL_law_459 : decode cL_law 459 = .ok (.aload_n 0, 1) := dc42 (by decide +kernel)
theorem dL_law_460 : decode cL_law 460 = .ok (.iload_n 3, 1) := dc29 (by decide +kernel)
theorem dL_law_461 : decode cL_law 461 = .ok (.iconst 1, 1) := dc4 (by decide +kernel)
theorem dL_law_462 : decode cL_law 462 = .ok (.iadd, 1) := dc96 (by decide +kernel)
theorem dL_law_463 : decode cL_law 463 = .ok (.iaload, 1) := dc46 (by decide +kernel)
theorem dL_law_464 : decode cL_law 464 = .ok (.aload_n 0, 1) := dc42 (by decide +kernel)
theorem dL_law_465 : decode cL_law 465 = .ok (.iload_n 3, 1) := dc29 (by decide +kernel)
theorem dL_law_466 : decode cL_law 466 = .ok (.iconst 2, 1) := dc5 (by decide +kernel)
theorem dL_law_467 : decode cL_law 467 = .ok (.iadd, 1) := dc96 (by decide +kernel)
theorem dL_law_468 : decode cL_law 468 = .ok (.iaload, 1) := dc46 (by decide +kernel)
theorem dL_law_469 : decode cL_law 469 = .ok (.invokevirtual 52, 3) := dc182 0 52 (by decide +kernel)
theorem dL_law_472 : decode cL_law 472 = .ok (.pop, 1) := dc87 (by decide +kernel)
theorem dL_law_473 : decode cL_law 473 = .ok (.aload_n 2, 1) := dc44 (by decide +kernel)
theorem dL_law_474 : decode cL_law 474 = .ok (.aload_n 0, 1) := dc42 (by decide +kernel)
theorem dL_law_475 : decode cL_law 475 = .ok (.iload_n 3, 1) := dc29 (by decide +kernel)
theorem dL_law_476 : decode cL_law 476 = .ok (.iconst 1, 1) := dc4 (by decide +kernel)
theorem dL_law_477 : decode cL_law 477 = .ok (.iadd, 1) := dc96 (by decide +kernel)
theorem dL_law_478 : decode cL_law 478 = .ok (.iaload, 1) := dc46 (by decide +kernel)
theorem dL_law_479 : decode cL_law 479 = .ok (.aload_n 0, 1) := dc42 (by decide +kernel)
theorem dL_law_480 : decode cL_law 480 = .ok (.iload_n 3, 1) := dc29 (by decide +kernel)
theorem dL_law_481 : decode cL_law 481 = .ok (.iconst 2, 1) := dc5 (by decide +kernel)
theorem dL_law_482 : decode cL_law 482 = .ok (.iadd, 1) := dc96 (by decide +kernel)
theorem dL_law_483 : decode cL_law 483 = .ok (.iaload, 1) := dc46 (by decide +kernel)
theorem dL_law_484 : decode cL_law 484 = .ok (.invokevirtual 55, 3) := dc182 0 55 (by decide +kernel)
theorem dL_law_487 : decode cL_law 487 = .ok (.pop, 1) := dc87 (by decide +kernel)
theorem dL_law_488 : decode cL_law 488 = .ok (.goto 204, 3) := dc167 0 204 (by decide +kernel) (by decide +kernel)
theorem dL_law_491 : decode cL_law 491 = .ok (.aload_n 1, 1) := dc43 (by decide +kernel)
theorem dL_law_492 : decode cL_law 492 = .ok (.aload_n 0, 1) := dc42 (by decide +kernel)
theorem dL_law_493 : decode cL_law 493 = .ok (.iload_n 3, 1) := dc29 (by decide +kernel)
theorem dL_law_494 : decode cL_law 494 = .ok (.iconst 1, 1) := dc4 (by decide +kernel)
theorem dL_law_495 : decode cL_law 495 = .ok (.iadd, 1) := dc96 (by decide +kernel)
theorem dL_law_496 : decode cL_law 496 = .ok (.iaload, 1) := dc46 (by decide +kernel)
theorem dL_law_497 : decode cL_law 497 = .ok (.invokevirtual 56, 3) := dc182 0 56 (by decide +kernel)
theorem dL_law_500 : decode cL_law 500 = .ok (.pop, 1) := dc87 (by decide +kernel)
theorem dL_law_501 : decode cL_law 501 = .ok (.aload_n 2, 1) := dc44 (by decide +kernel)
theorem dL_law_502 : decode cL_law 502 = .ok (.aload_n 0, 1) := dc42 (by decide +kernel)
theorem dL_law_503 : decode cL_law 503 = .ok (.iload_n 3, 1) := dc29 (by decide +kernel)
theorem dL_law_504 : decode cL_law 504 = .ok (.iconst 1, 1) := dc4 (by decide +kernel)
theorem dL_law_505 : decode cL_law 505 = .ok (.iadd, 1) := dc96 (by decide +kernel)
theorem dL_law_506 : decode cL_law 506 = .ok (.iaload, 1) := dc46 (by decide +kernel)
theorem dL_law_507 : decode cL_law 507 = .ok (.invokevirtual 59, 3) := dc182 0 59 (by decide +kernel)
theorem dL_law_510 : decode cL_law 510 = .ok (.pop, 1) := dc87 (by decide +kernel)
theorem dL_law_511 : decode cL_law 511 = .ok (.goto 181, 3) := dc167 0 181 (by decide +kernel) (by decide +kernel)
theorem dL_law_514 : decode cL_law 514 = .ok (.aload_n 1, 1) := dc43 (by decide +kernel)
theorem dL_law_515 : decode cL_law 515 = .ok (.aload_n 0, 1) := dc42 (by decide +kernel)
theorem dL_law_516 : decode cL_law 516 = .ok (.iload_n 3, 1) := dc29 (by decide +kernel)
theorem dL_law_517 : decode cL_law 517 = .ok (.iconst 1, 1) := dc4 (by decide +kernel)
theorem dL_law_518 : decode cL_law 518 = .ok (.iadd, 1) := dc96 (by decide +kernel)
theorem dL_law_519 : decode cL_law 519 = .ok (.iaload, 1) := dc46 (by decide +kernel)
theorem dL_law_520 : decode cL_law 520 = .ok (.aload_n 0, 1) := dc42 (by decide +kernel)
theorem dL_law_521 : decode cL_law 521 = .ok (.iload_n 3, 1) := dc29 (by decide +kernel)
theorem dL_law_522 : decode cL_law 522 = .ok (.iconst 2, 1) := dc5 (by decide +kernel)
theorem dL_law_523 : decode cL_law 523 = .ok (.iadd, 1) := dc96 (by decide +kernel)
theorem dL_law_524 : decode cL_law 524 = .ok (.iaload, 1) := dc46 (by decide +kernel)
theorem dL_law_525 : decode cL_law 525 = .ok (.invokevirtual 60, 3) := dc182 0 60 (by decide +kernel)
theorem dL_law_528 : decode cL_law 528 = .ok (.pop, 1) := dc87 (by decide +kernel)
theorem dL_law_529 : decode cL_law 529 = .ok (.aload_n 2, 1) := dc44 (by decide +kernel)
theorem dL_law_530 : decode cL_law 530 = .ok (.aload_n 0, 1) := dc42 (by decide +kernel)
theorem dL_law_531 : decode cL_law 531 = .ok (.iload_n 3, 1) := dc29 (by decide +kernel)
theorem dL_law_532 : decode cL_law 532 = .ok (.iconst 1, 1) := dc4 (by decide +kernel)
theorem dL_law_533 : decode cL_law 533 = .ok (.iadd, 1) := dc96 (by decide +kernel)
theorem dL_law_534 : decode cL_law 534 = .ok (.iaload, 1) := dc46 (by decide +kernel)
theorem dL_law_535 : decode cL_law 535 = .ok (.aload_n 0, 1) := dc42 (by decide +kernel)
theorem dL_law_536 : decode cL_law 536 = .ok (.iload_n 3, 1) := dc29 (by decide +kernel)
theorem dL_law_537 : decode cL_law 537 = .ok (.iconst 2, 1) := dc5 (by decide +kernel)
theorem dL_law_538 : decode cL_law 538 = .ok (.iadd, 1) := dc96 (by decide +kernel)
theorem dL_law_539 : decode cL_law 539 = .ok (.iaload, 1) := dc46 (by decide +kernel)
theorem dL_law_540 : decode cL_law 540 = .ok (.invokevirtual 63, 3) := dc182 0 63 (by decide +kernel)
theorem dL_law_543 : decode cL_law 543 = .ok (.pop, 1) := dc87 (by decide +kernel)
theorem dL_law_544 : decode cL_law 544 = .ok (.goto 148, 3) := dc167 0 148 (by decide +kernel) (by decide +kernel)
theorem dL_law_547 : decode cL_law 547 = .ok (.aload_n 1, 1) := dc43 (by decide +kernel)
theorem dL_law_548 : decode cL_law 548 = .ok (.aload_n 0, 1) := dc42 (by decide +kernel)
theorem dL_law_549 : decode cL_law 549 = .ok (.iload_n 3, 1) := dc29 (by decide +kernel)
theorem dL_law_550 : decode cL_law 550 = .ok (.iconst 1, 1) := dc4 (by decide +kernel)
theorem dL_law_551 : decode cL_law 551 = .ok (.iadd, 1) := dc96 (by decide +kernel)
theorem dL_law_552 : decode cL_law 552 = .ok (.iaload, 1) := dc46 (by decide +kernel)
theorem dL_law_553 : decode cL_law 553 = .ok (.invokevirtual 64, 3) := dc182 0 64 (by decide +kernel)
theorem dL_law_556 : decode cL_law 556 = .ok (.pop, 1) := dc87 (by decide +kernel)
theorem dL_law_557 : decode cL_law 557 = .ok (.aload_n 2, 1) := dc44 (by decide +kernel)
theorem dL_law_558 : decode cL_law 558 = .ok (.aload_n 0, 1) := dc42 (by decide +kernel)
theorem dL_law_559 : decode cL_law 559 = .ok (.iload_n 3, 1) := dc29 (by decide +kernel)
theorem dL_law_560 : decode cL_law 560 = .ok (.iconst 1, 1) := dc4 (by decide +kernel)
theorem dL_law_561 : decode cL_law 561 = .ok (.iadd, 1) := dc96 (by decide +kernel)
theorem dL_law_562 : decode cL_law 562 = .ok (.iaload, 1) := dc46 (by decide +kernel)
theorem dL_law_563 : decode cL_law 563 = .ok (.invokevirtual 67, 3) := dc182 0 67 (by decide +kernel)
theorem dL_law_566 : decode cL_law 566 = .ok (.pop, 1) := dc87 (by decide +kernel)
theorem dL_law_567 : decode cL_law 567 = .ok (.goto 125, 3) := dc167 0 125 (by decide +kernel) (by decide +kernel)
