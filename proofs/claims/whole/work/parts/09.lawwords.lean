theorem sub_of {big : List Cond} (ws : List Cond) (ps : List Nat) (hp : ws = ps.filterMap (fun i => big[i]?)) : ∀ w ∈ ws, w ∈ big := by
  intro w hw
  rw [hp] at hw
  obtain ⟨i, -, hi⟩ := List.mem_filterMap.mp hw
  exact List.mem_of_getElem? hi
set_option maxRecDepth 20000 in
theorem i_wsL_law_r1 : ∀ w ∈ wsL_law_r1, w ∈ lw_tbl := sub_of _ [35, 36, 25, 642, 643, 33, 37, 38, 39, 40, 41, 42, 43, 44, 26, 242, 63, 64, 27, 243, 83, 84, 28, 244] rfl
set_option maxRecDepth 20000 in
theorem i_wsL_law_r2 : ∀ w ∈ wsL_law_r2, w ∈ lw_tbl := sub_of _ [115, 116, 29, 245, 148, 149, 30, 246, 171, 172, 31, 247, 214, 215, 32, 248, 249, 45, 46, 47, 48, 49, 51, 52] rfl
set_option maxRecDepth 20000 in
theorem i_wsL_law_r3 : ∀ w ∈ wsL_law_r3, w ∈ lw_tbl := sub_of _ [53, 54, 55, 57, 58, 65, 66, 67, 68, 69, 62, 75, 71, 72, 73, 74, 76, 85, 86, 87, 88, 93, 89, 90] rfl
set_option maxRecDepth 20000 in
theorem i_wsL_law_r4 : ∀ w ∈ wsL_law_r4, w ∈ lw_tbl := sub_of _ [91, 92, 94, 95, 96, 98, 100, 117, 118, 119, 120, 125, 147, 126, 121, 122, 123, 124, 127, 129, 131, 132, 150, 151] rfl
set_option maxRecDepth 20000 in
theorem i_wsL_law_r5 : ∀ w ∈ wsL_law_r5, w ∈ lw_tbl := sub_of _ [152, 153, 154, 173, 174, 175, 176, 177, 178, 179, 180, 216, 217, 218, 219, 220, 221, 222, 223, 224, 644, 645, 646, 647] rfl
set_option maxRecDepth 20000 in
theorem i_wsL_law_r6 : ∀ w ∈ wsL_law_r6, w ∈ lw_tbl := sub_of _ [652, 653, 654, 655, 656, 657, 658, 659, 660, 664, 669, 670, 671, 673, 674, 675, 676, 683, 684, 685, 687, 688, 648, 650] rfl
set_option maxRecDepth 20000 in
theorem i_wsL_law_r7 : ∀ w ∈ wsL_law_r7, w ∈ lw_tbl := sub_of _ [14, 651, 661, 662, 663, 665, 666, 667, 668, 267, 268, 269, 270, 271, 272, 273, 274, 275, 276, 764, 765, 766, 767, 768] rfl
set_option maxRecDepth 20000 in
theorem i_wsL_law_r8 : ∀ w ∈ wsL_law_r8, w ∈ lw_tbl := sub_of _ [769, 773, 770, 771, 772, 277, 278, 279, 280, 285, 295, 281, 282, 283, 284, 286, 287, 288, 289, 290, 292, 296, 297, 298] rfl
set_option maxRecDepth 20000 in
theorem i_wsL_law_r9 : ∀ w ∈ wsL_law_r9, w ∈ lw_tbl := sub_of _ [299, 774, 775, 776, 777, 778, 782, 779, 780, 781, 300, 301, 302, 303, 304, 305, 306, 307, 308, 309, 310, 311, 312, 315] rfl
set_option maxRecDepth 20000 in
theorem i_wsL_law_r10 : ∀ w ∈ wsL_law_r10, w ∈ lw_tbl := sub_of _ [316, 317, 318, 783, 784, 785, 786, 791, 792, 787, 789, 15, 790, 319, 320, 321, 322, 323, 324, 325, 326, 327, 328, 329] rfl
set_option maxRecDepth 20000 in
theorem i_wsL_law_r11 : ∀ w ∈ wsL_law_r11, w ∈ lw_tbl := sub_of _ [330, 331, 332, 333, 334, 793, 794, 795, 796, 797, 799, 16, 800, 335, 336, 337, 338, 339, 340, 341, 342, 343, 344, 345] rfl
set_option maxRecDepth 20000 in
theorem i_wsL_law_r12 : ∀ w ∈ wsL_law_r12, w ∈ lw_tbl := sub_of _ [346, 801, 802, 803, 804, 347, 348, 349, 350, 351, 353, 0, 354, 386, 387, 34, 388, 355, 356, 357, 358, 359, 360, 361] rfl
set_option maxRecDepth 20000 in
theorem i_wsL_law_r13 : ∀ w ∈ wsL_law_r13, w ∈ lw_tbl := sub_of _ [362, 363, 364, 365, 366, 367, 368, 369, 370, 371, 372, 373, 374, 375, 376, 377, 378, 379, 380, 381, 382, 383, 384, 385] rfl
set_option maxRecDepth 20000 in
theorem i_wsL_law_r14 : ∀ w ∈ wsL_law_r14, w ∈ lw_tbl := sub_of _ [389, 390, 391, 392, 393, 395, 1, 396, 397, 399, 2, 400, 401, 402, 403, 404, 405, 406, 407, 408, 409, 805, 806, 807] rfl
set_option maxRecDepth 20000 in
theorem i_wsL_law_r15 : ∀ w ∈ wsL_law_r15, w ∈ lw_tbl := sub_of _ [808, 809, 810, 812, 17, 813, 818, 814, 816, 18, 817, 819, 821, 19, 822, 823, 824, 825, 410, 411, 412, 413, 826, 827] rfl
set_option maxRecDepth 20000 in
theorem i_wsL_law_r16 : ∀ w ∈ wsL_law_r16, w ∈ lw_tbl := sub_of _ [828, 829, 414, 415, 416, 417, 418, 419, 420, 421, 422, 423, 424, 425, 830, 831, 832, 833, 426, 427, 428, 429, 430, 834] rfl
set_option maxRecDepth 20000 in
theorem i_wsL_law_r17 : ∀ w ∈ wsL_law_r17, w ∈ lw_tbl := sub_of _ [835, 836, 837, 431, 432, 433, 434, 435, 436, 437, 438, 439, 440, 441, 442, 156, 157, 158, 159, 838, 839, 840, 841, 672] rfl
set_option maxRecDepth 20000 in
theorem i_wsL_law_r18 : ∀ w ∈ wsL_law_r18, w ∈ lw_tbl := sub_of _ [443, 444, 445, 446, 447, 448, 449, 450, 451, 452, 453, 454, 842, 843, 844, 845, 846, 848, 20, 849, 456, 457, 458, 459] rfl
set_option maxRecDepth 20000 in
theorem i_wsL_law_r19 : ∀ w ∈ wsL_law_r19, w ∈ lw_tbl := sub_of _ [850, 851, 852, 853, 460, 461, 462, 463, 464, 465, 466, 467, 854, 855, 856, 857, 468, 469, 470, 471, 472, 473, 474, 476] rfl
set_option maxRecDepth 20000 in
theorem i_wsL_law_r20 : ∀ w ∈ wsL_law_r20, w ∈ lw_tbl := sub_of _ [477, 478, 479, 480, 481, 482, 181, 483, 484, 485, 486, 182, 183, 184, 185, 186, 187, 188, 858, 859, 860, 861, 677, 862] rfl
set_option maxRecDepth 20000 in
theorem i_wsL_law_r21 : ∀ w ∈ wsL_law_r21, w ∈ lw_tbl := sub_of _ [863, 864, 487, 488, 489, 490, 491, 492, 493, 494, 865, 866, 867, 868, 495, 496, 497, 498, 499, 508, 500, 501, 502, 503] rfl
set_option maxRecDepth 20000 in
theorem i_wsL_law_r22 : ∀ w ∈ wsL_law_r22, w ∈ lw_tbl := sub_of _ [504, 506, 3, 507, 509, 510, 511, 512, 513, 515, 4, 516, 517, 519, 5, 520, 521, 523, 6, 524, 525, 527, 7, 528] rfl
set_option maxRecDepth 20000 in
theorem i_wsL_law_r23 : ∀ w ∈ wsL_law_r23, w ∈ lw_tbl := sub_of _ [529, 530, 531, 532, 533, 534, 535, 536, 537, 538, 869, 870, 871, 872, 873, 874, 879, 679, 678, 680, 681, 682, 875, 877] rfl
set_option maxRecDepth 20000 in
theorem i_wsL_law_r24 : ∀ w ∈ wsL_law_r24, w ∈ lw_tbl := sub_of _ [21, 878, 880, 881, 882, 539, 540, 541, 542, 547, 543, 544, 545, 546, 548, 549, 550, 551, 552, 554, 8, 555, 556, 557] rfl
set_option maxRecDepth 20000 in
theorem i_wsL_law_r25 : ∀ w ∈ wsL_law_r25, w ∈ lw_tbl := sub_of _ [558, 559, 560, 883, 884, 885, 886, 887, 561, 562, 563, 564, 565, 566, 567, 568, 569, 570, 571, 572, 573, 574, 225, 575] rfl
set_option maxRecDepth 20000 in
theorem i_wsL_law_r26 : ∀ w ∈ wsL_law_r26, w ∈ lw_tbl := sub_of _ [576, 577, 578, 226, 888, 889, 890, 891, 686, 579, 580, 581, 582, 583, 584, 585, 586, 892, 893, 894, 895, 587, 588, 589] rfl
set_option maxRecDepth 20000 in
theorem i_wsL_law_r27 : ∀ w ∈ wsL_law_r27, w ∈ lw_tbl := sub_of _ [590, 591, 592, 593, 595, 596, 597, 598, 896, 897, 898, 899, 599, 600, 601, 602, 603, 604, 605, 606, 607, 609, 9, 610] rfl
set_option maxRecDepth 20000 in
theorem i_wsL_law_r28 : ∀ w ∈ wsL_law_r28, w ∈ lw_tbl := sub_of _ [611, 612, 613, 614, 616, 10, 617, 618, 620, 11, 621, 622, 624, 12, 625, 626, 628, 13, 629, 900, 901, 902, 903, 904] rfl
set_option maxRecDepth 20000 in
theorem i_wsL_law_r29 : ∀ w ∈ wsL_law_r29, w ∈ lw_tbl := sub_of _ [906, 22, 907, 908, 910, 23, 911, 630, 631, 632, 633, 634, 635, 636, 637, 638, 639, 640, 641, 912, 913, 914, 915, 916] rfl
set_option maxRecDepth 20000 in
theorem inX0 : ∀ w ∈ wsX00, w ∈ lw_tbl := sub_of _ [227, 229, 231, 233, 235, 237, 239] rfl
set_option maxRecDepth 20000 in
theorem inX1 : ∀ w ∈ wsX10, w ∈ lw_tbl := sub_of _ [189, 191, 193, 195, 197, 199, 201, 203, 205, 207, 209, 211] rfl
set_option maxRecDepth 20000 in
theorem inX2 : ∀ w ∈ wsX20, w ∈ lw_tbl := sub_of _ [160, 162, 164, 166, 168] rfl
set_option maxRecDepth 20000 in
theorem inX3 : ∀ w ∈ wsX30, w ∈ lw_tbl := sub_of _ [59] rfl
set_option maxRecDepth 20000 in
theorem inX4 : ∀ w ∈ wsX40, w ∈ lw_tbl := sub_of _ [134, 136, 138, 140, 142, 144] rfl
set_option maxRecDepth 20000 in
theorem inX5 : ∀ w ∈ wsX50, w ∈ lw_tbl := sub_of _ [102, 104, 106, 108, 110, 112] rfl
set_option maxRecDepth 20000 in
theorem inX6 : ∀ w ∈ wsX60, w ∈ lw_tbl := sub_of _ [78, 80] rfl
set_option maxRecDepth 20000 in
theorem inX7 : ∀ w ∈ wsX70, w ∈ lw_tbl := sub_of _ [250, 252, 254, 256, 258, 260, 262, 264] rfl
set_option maxRecDepth 20000 in
theorem inX8 : ∀ w ∈ wsX80, w ∈ lw_tbl := sub_of _ [689, 691, 693, 695, 697, 699, 701, 703, 705, 707, 709, 711, 713, 715, 717, 719, 721, 723, 725, 727, 729, 731, 733, 735, 737, 739, 741, 743, 745, 747, 749, 751, 753, 755, 757, 759, 761] rfl
