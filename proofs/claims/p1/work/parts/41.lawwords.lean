theorem w78 : Cond.classLink RL 7 RX10 ∈ uw := uw_mem 78 (by decide +kernel) (by decide +kernel)
theorem w79 : Cond.instantiable RX10 17 ∈ uw := uw_mem 79 (by decide +kernel) (by decide +kernel)
theorem w80 : Cond.methodLink RL 9 yX10_init ∈ uw := uw_mem 80 (by decide +kernel) (by decide +kernel)
theorem w81 : Cond.instanceMethod yX10_init ∈ uw := uw_mem 81 (by decide +kernel) (by decide +kernel)
theorem w82 : Cond.code yX10_init cX10_init 2 none ∈ uw := uw_mem 82 (by decide +kernel) (by decide +kernel)
theorem w301 : Cond.methodLink RL 13 yX10_size ∈ uw := uw_mem 301 (by decide +kernel) (by decide +kernel)
theorem w302 : Cond.instanceMethod yX10_size ∈ uw := uw_mem 302 (by decide +kernel) (by decide +kernel)
theorem w303 : Cond.selects RX10 yX10_size yX10_size ∈ uw := uw_mem 303 (by decide +kernel) (by decide +kernel)
theorem w304 : Cond.code yX10_size cX10_size 3 (some .int) ∈ uw := uw_mem 304 (by decide +kernel) (by decide +kernel)
theorem w312 : Cond.methodLink RL 18 yX10_unit ∈ uw := uw_mem 312 (by decide +kernel) (by decide +kernel)
theorem w313 : Cond.instanceMethod yX10_unit ∈ uw := uw_mem 313 (by decide +kernel) (by decide +kernel)
theorem w314 : Cond.selects RX10 yX10_unit yX10_unit ∈ uw := uw_mem 314 (by decide +kernel) (by decide +kernel)
theorem w315 : Cond.code yX10_unit cX10_unit 4 (some .int) ∈ uw := uw_mem 315 (by decide +kernel) (by decide +kernel)
theorem w349 : Cond.methodLink RL 23 yX10_made ∈ uw := uw_mem 349 (by decide +kernel) (by decide +kernel)
theorem w350 : Cond.instanceMethod yX10_made ∈ uw := uw_mem 350 (by decide +kernel) (by decide +kernel)
theorem w351 : Cond.selects RX10 yX10_made yX10_made ∈ uw := uw_mem 351 (by decide +kernel) (by decide +kernel)
theorem w352 : Cond.code yX10_made cX10_made 4 (some .int) ∈ uw := uw_mem 352 (by decide +kernel) (by decide +kernel)
theorem w390 : Cond.methodLink RL 27 yX10_drop ∈ uw := uw_mem 390 (by decide +kernel) (by decide +kernel)
theorem w391 : Cond.instanceMethod yX10_drop ∈ uw := uw_mem 391 (by decide +kernel) (by decide +kernel)
theorem w392 : Cond.selects RX10 yX10_drop yX10_drop ∈ uw := uw_mem 392 (by decide +kernel) (by decide +kernel)
theorem w393 : Cond.code yX10_drop cX10_drop 1 (some .int) ∈ uw := uw_mem 393 (by decide +kernel) (by decide +kernel)
theorem w394 : Cond.methodLink RL 32 yX10_at ∈ uw := uw_mem 394 (by decide +kernel) (by decide +kernel)
theorem w395 : Cond.instanceMethod yX10_at ∈ uw := uw_mem 395 (by decide +kernel) (by decide +kernel)
theorem w396 : Cond.selects RX10 yX10_at yX10_at ∈ uw := uw_mem 396 (by decide +kernel) (by decide +kernel)
theorem w397 : Cond.code yX10_at cX10_at 4 (some .int) ∈ uw := uw_mem 397 (by decide +kernel) (by decide +kernel)
theorem w398 : Cond.methodLink RL 36 yX10_of ∈ uw := uw_mem 398 (by decide +kernel) (by decide +kernel)
theorem w399 : Cond.instanceMethod yX10_of ∈ uw := uw_mem 399 (by decide +kernel) (by decide +kernel)
theorem w400 : Cond.selects RX10 yX10_of yX10_of ∈ uw := uw_mem 400 (by decide +kernel) (by decide +kernel)
theorem w401 : Cond.code yX10_of cX10_of 4 (some .int) ∈ uw := uw_mem 401 (by decide +kernel) (by decide +kernel)
theorem w415 : Cond.methodLink RL 41 yX10_character ∈ uw := uw_mem 415 (by decide +kernel) (by decide +kernel)
theorem w416 : Cond.instanceMethod yX10_character ∈ uw := uw_mem 416 (by decide +kernel) (by decide +kernel)
theorem w417 : Cond.selects RX10 yX10_character yX10_character ∈ uw := uw_mem 417 (by decide +kernel) (by decide +kernel)
theorem w418 : Cond.code yX10_character cX10_character 3 (some .int) ∈ uw := uw_mem 418 (by decide +kernel) (by decide +kernel)
theorem w426 : Cond.methodLink RL 45 yX10_factor ∈ uw := uw_mem 426 (by decide +kernel) (by decide +kernel)
theorem w427 : Cond.instanceMethod yX10_factor ∈ uw := uw_mem 427 (by decide +kernel) (by decide +kernel)
theorem w428 : Cond.selects RX10 yX10_factor yX10_factor ∈ uw := uw_mem 428 (by decide +kernel) (by decide +kernel)
theorem w429 : Cond.code yX10_factor cX10_factor 4 (some .int) ∈ uw := uw_mem 429 (by decide +kernel) (by decide +kernel)
theorem w445 : Cond.methodLink RL 51 yX10_feed ∈ uw := uw_mem 445 (by decide +kernel) (by decide +kernel)
theorem w446 : Cond.instanceMethod yX10_feed ∈ uw := uw_mem 446 (by decide +kernel) (by decide +kernel)
theorem w447 : Cond.selects RX10 yX10_feed yX10_feed ∈ uw := uw_mem 447 (by decide +kernel) (by decide +kernel)
theorem w448 : Cond.code yX10_feed cX10_feed 4 (some .int) ∈ uw := uw_mem 448 (by decide +kernel) (by decide +kernel)
theorem w453 : Cond.methodLink RL 56 yX10_text ∈ uw := uw_mem 453 (by decide +kernel) (by decide +kernel)
theorem w454 : Cond.instanceMethod yX10_text ∈ uw := uw_mem 454 (by decide +kernel) (by decide +kernel)
theorem w455 : Cond.selects RX10 yX10_text yX10_text ∈ uw := uw_mem 455 (by decide +kernel) (by decide +kernel)
theorem w456 : Cond.code yX10_text cX10_text 2 (some .int) ∈ uw := uw_mem 456 (by decide +kernel) (by decide +kernel)
theorem w485 : Cond.methodLink RL 60 yX10_listed ∈ uw := uw_mem 485 (by decide +kernel) (by decide +kernel)
theorem w486 : Cond.instanceMethod yX10_listed ∈ uw := uw_mem 486 (by decide +kernel) (by decide +kernel)
theorem w487 : Cond.selects RX10 yX10_listed yX10_listed ∈ uw := uw_mem 487 (by decide +kernel) (by decide +kernel)
theorem w488 : Cond.code yX10_listed cX10_listed 1 (some .int) ∈ uw := uw_mem 488 (by decide +kernel) (by decide +kernel)
theorem w561 : Cond.methodLink RL 64 yX10_whole ∈ uw := uw_mem 561 (by decide +kernel) (by decide +kernel)
theorem w562 : Cond.instanceMethod yX10_whole ∈ uw := uw_mem 562 (by decide +kernel) (by decide +kernel)
theorem w563 : Cond.selects RX10 yX10_whole yX10_whole ∈ uw := uw_mem 563 (by decide +kernel) (by decide +kernel)
theorem w564 : Cond.code yX10_whole cX10_whole 1 (some .int) ∈ uw := uw_mem 564 (by decide +kernel) (by decide +kernel)
theorem w565 : Cond.methodLink RL 68 yX10_element ∈ uw := uw_mem 565 (by decide +kernel) (by decide +kernel)
theorem w566 : Cond.instanceMethod yX10_element ∈ uw := uw_mem 566 (by decide +kernel) (by decide +kernel)
theorem w567 : Cond.selects RX10 yX10_element yX10_element ∈ uw := uw_mem 567 (by decide +kernel) (by decide +kernel)
theorem w568 : Cond.code yX10_element cX10_element 4 (some .long) ∈ uw := uw_mem 568 (by decide +kernel) (by decide +kernel)
theorem w575 : Cond.methodLink RL 73 yX10_about ∈ uw := uw_mem 575 (by decide +kernel) (by decide +kernel)
theorem w576 : Cond.instanceMethod yX10_about ∈ uw := uw_mem 576 (by decide +kernel) (by decide +kernel)
theorem w577 : Cond.selects RX10 yX10_about yX10_about ∈ uw := uw_mem 577 (by decide +kernel) (by decide +kernel)
theorem w578 : Cond.code yX10_about cX10_about 3 (some .int) ∈ uw := uw_mem 578 (by decide +kernel) (by decide +kernel)
theorem w579 : Cond.methodLink RL 77 yX10_witness ∈ uw := uw_mem 579 (by decide +kernel) (by decide +kernel)
theorem w580 : Cond.instanceMethod yX10_witness ∈ uw := uw_mem 580 (by decide +kernel) (by decide +kernel)
theorem w581 : Cond.selects RX10 yX10_witness yX10_witness ∈ uw := uw_mem 581 (by decide +kernel) (by decide +kernel)
theorem w582 : Cond.code yX10_witness cX10_witness 2 (some .int) ∈ uw := uw_mem 582 (by decide +kernel) (by decide +kernel)
theorem w583 : Cond.methodLink RL 81 yX10_found ∈ uw := uw_mem 583 (by decide +kernel) (by decide +kernel)
theorem w584 : Cond.instanceMethod yX10_found ∈ uw := uw_mem 584 (by decide +kernel) (by decide +kernel)
theorem w585 : Cond.selects RX10 yX10_found yX10_found ∈ uw := uw_mem 585 (by decide +kernel) (by decide +kernel)
theorem w586 : Cond.code yX10_found cX10_found 3 (some .int) ∈ uw := uw_mem 586 (by decide +kernel) (by decide +kernel)
theorem w598 : Cond.methodLink RL 85 yX10_middle ∈ uw := uw_mem 598 (by decide +kernel) (by decide +kernel)
theorem w599 : Cond.instanceMethod yX10_middle ∈ uw := uw_mem 599 (by decide +kernel) (by decide +kernel)
theorem w600 : Cond.selects RX10 yX10_middle yX10_middle ∈ uw := uw_mem 600 (by decide +kernel) (by decide +kernel)
theorem w601 : Cond.code yX10_middle cX10_middle 3 (some .int) ∈ uw := uw_mem 601 (by decide +kernel) (by decide +kernel)
theorem w609 : Cond.methodLink RL 89 yX10_form ∈ uw := uw_mem 609 (by decide +kernel) (by decide +kernel)
theorem w610 : Cond.instanceMethod yX10_form ∈ uw := uw_mem 610 (by decide +kernel) (by decide +kernel)
theorem w611 : Cond.selects RX10 yX10_form yX10_form ∈ uw := uw_mem 611 (by decide +kernel) (by decide +kernel)
theorem w612 : Cond.code yX10_form cX10_form 5 (some .long) ∈ uw := uw_mem 612 (by decide +kernel) (by decide +kernel)
theorem w630 : Cond.methodLink RL 94 yX10_keeps ∈ uw := uw_mem 630 (by decide +kernel) (by decide +kernel)
theorem w631 : Cond.instanceMethod yX10_keeps ∈ uw := uw_mem 631 (by decide +kernel) (by decide +kernel)
theorem w632 : Cond.selects RX10 yX10_keeps yX10_keeps ∈ uw := uw_mem 632 (by decide +kernel) (by decide +kernel)
theorem w633 : Cond.code yX10_keeps cX10_keeps 4 (some .int) ∈ uw := uw_mem 633 (by decide +kernel) (by decide +kernel)
theorem w658 : Cond.methodLink RL 98 yX10_image ∈ uw := uw_mem 658 (by decide +kernel) (by decide +kernel)
theorem w659 : Cond.instanceMethod yX10_image ∈ uw := uw_mem 659 (by decide +kernel) (by decide +kernel)
theorem w660 : Cond.selects RX10 yX10_image yX10_image ∈ uw := uw_mem 660 (by decide +kernel) (by decide +kernel)
theorem w661 : Cond.code yX10_image cX10_image 2 (some .int) ∈ uw := uw_mem 661 (by decide +kernel) (by decide +kernel)
theorem w673 : Cond.methodLink RL 102 yX10_faithful ∈ uw := uw_mem 673 (by decide +kernel) (by decide +kernel)
theorem w674 : Cond.instanceMethod yX10_faithful ∈ uw := uw_mem 674 (by decide +kernel) (by decide +kernel)
theorem w675 : Cond.selects RX10 yX10_faithful yX10_faithful ∈ uw := uw_mem 675 (by decide +kernel) (by decide +kernel)
theorem w676 : Cond.code yX10_faithful cX10_faithful 2 (some .int) ∈ uw := uw_mem 676 (by decide +kernel) (by decide +kernel)
theorem w682 : Cond.methodLink RL 106 yX10_orbit ∈ uw := uw_mem 682 (by decide +kernel) (by decide +kernel)
theorem w683 : Cond.instanceMethod yX10_orbit ∈ uw := uw_mem 683 (by decide +kernel) (by decide +kernel)
theorem w684 : Cond.selects RX10 yX10_orbit yX10_orbit ∈ uw := uw_mem 684 (by decide +kernel) (by decide +kernel)
theorem w685 : Cond.code yX10_orbit cX10_orbit 4 (some .int) ∈ uw := uw_mem 685 (by decide +kernel) (by decide +kernel)
theorem w696 : Cond.methodLink RL 110 yX10_point ∈ uw := uw_mem 696 (by decide +kernel) (by decide +kernel)
theorem w697 : Cond.instanceMethod yX10_point ∈ uw := uw_mem 697 (by decide +kernel) (by decide +kernel)
theorem w698 : Cond.selects RX10 yX10_point yX10_point ∈ uw := uw_mem 698 (by decide +kernel) (by decide +kernel)
theorem w699 : Cond.code yX10_point cX10_point 3 (some .long) ∈ uw := uw_mem 699 (by decide +kernel) (by decide +kernel)
theorem w700 : Cond.methodLink RL 114 yX10_round ∈ uw := uw_mem 700 (by decide +kernel) (by decide +kernel)
theorem w701 : Cond.instanceMethod yX10_round ∈ uw := uw_mem 701 (by decide +kernel) (by decide +kernel)
theorem w702 : Cond.selects RX10 yX10_round yX10_round ∈ uw := uw_mem 702 (by decide +kernel) (by decide +kernel)
theorem w703 : Cond.code yX10_round cX10_round 2 (some .int) ∈ uw := uw_mem 703 (by decide +kernel) (by decide +kernel)
theorem w708 : Cond.methodLink RL 118 yX10_still ∈ uw := uw_mem 708 (by decide +kernel) (by decide +kernel)
theorem w709 : Cond.instanceMethod yX10_still ∈ uw := uw_mem 709 (by decide +kernel) (by decide +kernel)
theorem w710 : Cond.selects RX10 yX10_still yX10_still ∈ uw := uw_mem 710 (by decide +kernel) (by decide +kernel)
theorem w711 : Cond.code yX10_still cX10_still 6 (some .int) ∈ uw := uw_mem 711 (by decide +kernel) (by decide +kernel)
theorem w713 : Cond.methodLink RL 122 yX10_seed ∈ uw := uw_mem 713 (by decide +kernel) (by decide +kernel)
theorem w714 : Cond.instanceMethod yX10_seed ∈ uw := uw_mem 714 (by decide +kernel) (by decide +kernel)
theorem w715 : Cond.selects RX10 yX10_seed yX10_seed ∈ uw := uw_mem 715 (by decide +kernel) (by decide +kernel)
theorem w716 : Cond.code yX10_seed cX10_seed 3 (some .int) ∈ uw := uw_mem 716 (by decide +kernel) (by decide +kernel)
theorem w717 : Cond.methodLink RL 126 yX10_lot ∈ uw := uw_mem 717 (by decide +kernel) (by decide +kernel)
theorem w718 : Cond.instanceMethod yX10_lot ∈ uw := uw_mem 718 (by decide +kernel) (by decide +kernel)
theorem w719 : Cond.selects RX10 yX10_lot yX10_lot ∈ uw := uw_mem 719 (by decide +kernel) (by decide +kernel)
theorem w720 : Cond.code yX10_lot cX10_lot 6 (some .int) ∈ uw := uw_mem 720 (by decide +kernel) (by decide +kernel)
theorem w726 : Cond.methodLink RL 130 yX10_sheet ∈ uw := uw_mem 726 (by decide +kernel) (by decide +kernel)
theorem w727 : Cond.instanceMethod yX10_sheet ∈ uw := uw_mem 727 (by decide +kernel) (by decide +kernel)
theorem w728 : Cond.selects RX10 yX10_sheet yX10_sheet ∈ uw := uw_mem 728 (by decide +kernel) (by decide +kernel)
theorem w729 : Cond.code yX10_sheet cX10_sheet 4 (some .int) ∈ uw := uw_mem 729 (by decide +kernel) (by decide +kernel)
theorem w738 : Cond.methodLink RL 134 yX10_put ∈ uw := uw_mem 738 (by decide +kernel) (by decide +kernel)
theorem w739 : Cond.instanceMethod yX10_put ∈ uw := uw_mem 739 (by decide +kernel) (by decide +kernel)
theorem w740 : Cond.selects RX10 yX10_put yX10_put ∈ uw := uw_mem 740 (by decide +kernel) (by decide +kernel)
theorem w741 : Cond.code yX10_put cX10_put 6 (some .int) ∈ uw := uw_mem 741 (by decide +kernel) (by decide +kernel)
theorem w746 : Cond.methodLink RL 139 yX10_item ∈ uw := uw_mem 746 (by decide +kernel) (by decide +kernel)
theorem w747 : Cond.instanceMethod yX10_item ∈ uw := uw_mem 747 (by decide +kernel) (by decide +kernel)
theorem w748 : Cond.selects RX10 yX10_item yX10_item ∈ uw := uw_mem 748 (by decide +kernel) (by decide +kernel)
theorem w749 : Cond.code yX10_item cX10_item 5 (some .int) ∈ uw := uw_mem 749 (by decide +kernel) (by decide +kernel)
theorem w750 : Cond.methodLink RL 143 yX10_copy ∈ uw := uw_mem 750 (by decide +kernel) (by decide +kernel)
theorem w751 : Cond.instanceMethod yX10_copy ∈ uw := uw_mem 751 (by decide +kernel) (by decide +kernel)
theorem w752 : Cond.selects RX10 yX10_copy yX10_copy ∈ uw := uw_mem 752 (by decide +kernel) (by decide +kernel)
theorem w753 : Cond.code yX10_copy cX10_copy 8 (some .int) ∈ uw := uw_mem 753 (by decide +kernel) (by decide +kernel)
theorem w754 : Cond.methodLink RL 148 yX10_lay ∈ uw := uw_mem 754 (by decide +kernel) (by decide +kernel)
theorem w755 : Cond.instanceMethod yX10_lay ∈ uw := uw_mem 755 (by decide +kernel) (by decide +kernel)
theorem w756 : Cond.selects RX10 yX10_lay yX10_lay ∈ uw := uw_mem 756 (by decide +kernel) (by decide +kernel)
theorem w757 : Cond.code yX10_lay cX10_lay 5 (some .int) ∈ uw := uw_mem 757 (by decide +kernel) (by decide +kernel)
theorem w758 : Cond.methodLink RL 152 yX10_take ∈ uw := uw_mem 758 (by decide +kernel) (by decide +kernel)
theorem w759 : Cond.instanceMethod yX10_take ∈ uw := uw_mem 759 (by decide +kernel) (by decide +kernel)
theorem w760 : Cond.selects RX10 yX10_take yX10_take ∈ uw := uw_mem 760 (by decide +kernel) (by decide +kernel)
theorem w761 : Cond.code yX10_take cX10_take 4 (some .int) ∈ uw := uw_mem 761 (by decide +kernel) (by decide +kernel)
theorem w763 : Cond.methodLink RL 156 yX10_many ∈ uw := uw_mem 763 (by decide +kernel) (by decide +kernel)
theorem w764 : Cond.instanceMethod yX10_many ∈ uw := uw_mem 764 (by decide +kernel) (by decide +kernel)
theorem w765 : Cond.selects RX10 yX10_many yX10_many ∈ uw := uw_mem 765 (by decide +kernel) (by decide +kernel)
theorem w766 : Cond.code yX10_many cX10_many 2 (some .int) ∈ uw := uw_mem 766 (by decide +kernel) (by decide +kernel)
theorem w767 : Cond.methodLink RL 160 yX10_keep ∈ uw := uw_mem 767 (by decide +kernel) (by decide +kernel)
theorem w768 : Cond.instanceMethod yX10_keep ∈ uw := uw_mem 768 (by decide +kernel) (by decide +kernel)
theorem w769 : Cond.selects RX10 yX10_keep yX10_keep ∈ uw := uw_mem 769 (by decide +kernel) (by decide +kernel)
theorem w770 : Cond.code yX10_keep cX10_keep 1 (some .int) ∈ uw := uw_mem 770 (by decide +kernel) (by decide +kernel)
theorem w775 : Cond.methodLink RL 164 yX10_again ∈ uw := uw_mem 775 (by decide +kernel) (by decide +kernel)
theorem w776 : Cond.instanceMethod yX10_again ∈ uw := uw_mem 776 (by decide +kernel) (by decide +kernel)
theorem w777 : Cond.selects RX10 yX10_again yX10_again ∈ uw := uw_mem 777 (by decide +kernel) (by decide +kernel)
theorem w778 : Cond.code yX10_again cX10_again 1 (some .int) ∈ uw := uw_mem 778 (by decide +kernel) (by decide +kernel)
theorem w779 : Cond.classLink RL 10 RX11 ∈ uw := uw_mem 779 (by decide +kernel) (by decide +kernel)
theorem w780 : Cond.instantiable RX11 36 ∈ uw := uw_mem 780 (by decide +kernel) (by decide +kernel)
theorem w781 : Cond.methodLink RL 12 yX11_init ∈ uw := uw_mem 781 (by decide +kernel) (by decide +kernel)
theorem w782 : Cond.instanceMethod yX11_init ∈ uw := uw_mem 782 (by decide +kernel) (by decide +kernel)
theorem w783 : Cond.code yX11_init cX11_init 1 none ∈ uw := uw_mem 783 (by decide +kernel) (by decide +kernel)
theorem w894 : Cond.methodLink RL 17 yX11_size ∈ uw := uw_mem 894 (by decide +kernel) (by decide +kernel)
theorem w895 : Cond.instanceMethod yX11_size ∈ uw := uw_mem 895 (by decide +kernel) (by decide +kernel)
theorem w896 : Cond.selects RX11 yX11_size yX11_size ∈ uw := uw_mem 896 (by decide +kernel) (by decide +kernel)
theorem w897 : Cond.code yX11_size cX11_size 3 (some .int) ∈ uw := uw_mem 897 (by decide +kernel) (by decide +kernel)
theorem w902 : Cond.methodLink RL 22 yX11_unit ∈ uw := uw_mem 902 (by decide +kernel) (by decide +kernel)
theorem w903 : Cond.instanceMethod yX11_unit ∈ uw := uw_mem 903 (by decide +kernel) (by decide +kernel)
theorem w904 : Cond.selects RX11 yX11_unit yX11_unit ∈ uw := uw_mem 904 (by decide +kernel) (by decide +kernel)
theorem w905 : Cond.code yX11_unit cX11_unit 4 (some .int) ∈ uw := uw_mem 905 (by decide +kernel) (by decide +kernel)
theorem w928 : Cond.methodLink RL 26 yX11_made ∈ uw := uw_mem 928 (by decide +kernel) (by decide +kernel)
theorem w929 : Cond.instanceMethod yX11_made ∈ uw := uw_mem 929 (by decide +kernel) (by decide +kernel)
theorem w930 : Cond.selects RX11 yX11_made yX11_made ∈ uw := uw_mem 930 (by decide +kernel) (by decide +kernel)
theorem w931 : Cond.code yX11_made cX11_made 10 (some .int) ∈ uw := uw_mem 931 (by decide +kernel) (by decide +kernel)
theorem w957 : Cond.methodLink RL 31 yX11_drop ∈ uw := uw_mem 957 (by decide +kernel) (by decide +kernel)
theorem w958 : Cond.instanceMethod yX11_drop ∈ uw := uw_mem 958 (by decide +kernel) (by decide +kernel)
theorem w959 : Cond.selects RX11 yX11_drop yX11_drop ∈ uw := uw_mem 959 (by decide +kernel) (by decide +kernel)
theorem w960 : Cond.code yX11_drop cX11_drop 1 (some .int) ∈ uw := uw_mem 960 (by decide +kernel) (by decide +kernel)
theorem w961 : Cond.methodLink RL 35 yX11_at ∈ uw := uw_mem 961 (by decide +kernel) (by decide +kernel)
theorem w962 : Cond.instanceMethod yX11_at ∈ uw := uw_mem 962 (by decide +kernel) (by decide +kernel)
theorem w963 : Cond.selects RX11 yX11_at yX11_at ∈ uw := uw_mem 963 (by decide +kernel) (by decide +kernel)
theorem w964 : Cond.code yX11_at cX11_at 4 (some .int) ∈ uw := uw_mem 964 (by decide +kernel) (by decide +kernel)
theorem w965 : Cond.methodLink RL 40 yX11_of ∈ uw := uw_mem 965 (by decide +kernel) (by decide +kernel)
theorem w966 : Cond.instanceMethod yX11_of ∈ uw := uw_mem 966 (by decide +kernel) (by decide +kernel)
theorem w967 : Cond.selects RX11 yX11_of yX11_of ∈ uw := uw_mem 967 (by decide +kernel) (by decide +kernel)
theorem w968 : Cond.code yX11_of cX11_of 3 (some .int) ∈ uw := uw_mem 968 (by decide +kernel) (by decide +kernel)
theorem w983 : Cond.methodLink RL 44 yX11_character ∈ uw := uw_mem 983 (by decide +kernel) (by decide +kernel)
theorem w984 : Cond.instanceMethod yX11_character ∈ uw := uw_mem 984 (by decide +kernel) (by decide +kernel)
theorem w985 : Cond.selects RX11 yX11_character yX11_character ∈ uw := uw_mem 985 (by decide +kernel) (by decide +kernel)
theorem w986 : Cond.code yX11_character cX11_character 3 (some .int) ∈ uw := uw_mem 986 (by decide +kernel) (by decide +kernel)
theorem w992 : Cond.methodLink RL 48 yX11_factor ∈ uw := uw_mem 992 (by decide +kernel) (by decide +kernel)
theorem w993 : Cond.instanceMethod yX11_factor ∈ uw := uw_mem 993 (by decide +kernel) (by decide +kernel)
theorem w994 : Cond.selects RX11 yX11_factor yX11_factor ∈ uw := uw_mem 994 (by decide +kernel) (by decide +kernel)
theorem w995 : Cond.code yX11_factor cX11_factor 5 (some .int) ∈ uw := uw_mem 995 (by decide +kernel) (by decide +kernel)
theorem w1000 : Cond.methodLink RL 55 yX11_feed ∈ uw := uw_mem 1000 (by decide +kernel) (by decide +kernel)
theorem w1001 : Cond.instanceMethod yX11_feed ∈ uw := uw_mem 1001 (by decide +kernel) (by decide +kernel)
theorem w1002 : Cond.selects RX11 yX11_feed yX11_feed ∈ uw := uw_mem 1002 (by decide +kernel) (by decide +kernel)
theorem w1003 : Cond.code yX11_feed cX11_feed 5 (some .int) ∈ uw := uw_mem 1003 (by decide +kernel) (by decide +kernel)
theorem w1006 : Cond.methodLink RL 59 yX11_text ∈ uw := uw_mem 1006 (by decide +kernel) (by decide +kernel)
theorem w1007 : Cond.instanceMethod yX11_text ∈ uw := uw_mem 1007 (by decide +kernel) (by decide +kernel)
theorem w1008 : Cond.selects RX11 yX11_text yX11_text ∈ uw := uw_mem 1008 (by decide +kernel) (by decide +kernel)
theorem w1009 : Cond.code yX11_text cX11_text 4 (some .int) ∈ uw := uw_mem 1009 (by decide +kernel) (by decide +kernel)
theorem w1032 : Cond.methodLink RL 63 yX11_listed ∈ uw := uw_mem 1032 (by decide +kernel) (by decide +kernel)
theorem w1033 : Cond.instanceMethod yX11_listed ∈ uw := uw_mem 1033 (by decide +kernel) (by decide +kernel)
theorem w1034 : Cond.selects RX11 yX11_listed yX11_listed ∈ uw := uw_mem 1034 (by decide +kernel) (by decide +kernel)
theorem w1035 : Cond.code yX11_listed cX11_listed 1 (some .int) ∈ uw := uw_mem 1035 (by decide +kernel) (by decide +kernel)
theorem w1052 : Cond.methodLink RL 67 yX11_whole ∈ uw := uw_mem 1052 (by decide +kernel) (by decide +kernel)
theorem w1053 : Cond.instanceMethod yX11_whole ∈ uw := uw_mem 1053 (by decide +kernel) (by decide +kernel)
theorem w1054 : Cond.selects RX11 yX11_whole yX11_whole ∈ uw := uw_mem 1054 (by decide +kernel) (by decide +kernel)
theorem w1055 : Cond.code yX11_whole cX11_whole 1 (some .int) ∈ uw := uw_mem 1055 (by decide +kernel) (by decide +kernel)
theorem w1056 : Cond.methodLink RL 72 yX11_element ∈ uw := uw_mem 1056 (by decide +kernel) (by decide +kernel)
theorem w1057 : Cond.instanceMethod yX11_element ∈ uw := uw_mem 1057 (by decide +kernel) (by decide +kernel)
theorem w1058 : Cond.selects RX11 yX11_element yX11_element ∈ uw := uw_mem 1058 (by decide +kernel) (by decide +kernel)
theorem w1059 : Cond.code yX11_element cX11_element 4 (some .long) ∈ uw := uw_mem 1059 (by decide +kernel) (by decide +kernel)
theorem w1064 : Cond.methodLink RL 76 yX11_about ∈ uw := uw_mem 1064 (by decide +kernel) (by decide +kernel)
theorem w1065 : Cond.instanceMethod yX11_about ∈ uw := uw_mem 1065 (by decide +kernel) (by decide +kernel)
theorem w1066 : Cond.selects RX11 yX11_about yX11_about ∈ uw := uw_mem 1066 (by decide +kernel) (by decide +kernel)
theorem w1067 : Cond.code yX11_about cX11_about 3 (some .int) ∈ uw := uw_mem 1067 (by decide +kernel) (by decide +kernel)
theorem w1072 : Cond.methodLink RL 80 yX11_witness ∈ uw := uw_mem 1072 (by decide +kernel) (by decide +kernel)
theorem w1073 : Cond.instanceMethod yX11_witness ∈ uw := uw_mem 1073 (by decide +kernel) (by decide +kernel)
theorem w1074 : Cond.selects RX11 yX11_witness yX11_witness ∈ uw := uw_mem 1074 (by decide +kernel) (by decide +kernel)
theorem w1075 : Cond.code yX11_witness cX11_witness 2 (some .int) ∈ uw := uw_mem 1075 (by decide +kernel) (by decide +kernel)
theorem w1076 : Cond.methodLink RL 84 yX11_found ∈ uw := uw_mem 1076 (by decide +kernel) (by decide +kernel)
theorem w1077 : Cond.instanceMethod yX11_found ∈ uw := uw_mem 1077 (by decide +kernel) (by decide +kernel)
theorem w1078 : Cond.selects RX11 yX11_found yX11_found ∈ uw := uw_mem 1078 (by decide +kernel) (by decide +kernel)
theorem w1079 : Cond.code yX11_found cX11_found 7 (some .int) ∈ uw := uw_mem 1079 (by decide +kernel) (by decide +kernel)
theorem w1080 : Cond.methodLink RL 88 yX11_middle ∈ uw := uw_mem 1080 (by decide +kernel) (by decide +kernel)
theorem w1081 : Cond.instanceMethod yX11_middle ∈ uw := uw_mem 1081 (by decide +kernel) (by decide +kernel)
theorem w1082 : Cond.selects RX11 yX11_middle yX11_middle ∈ uw := uw_mem 1082 (by decide +kernel) (by decide +kernel)
theorem w1083 : Cond.code yX11_middle cX11_middle 6 (some .int) ∈ uw := uw_mem 1083 (by decide +kernel) (by decide +kernel)
theorem w1084 : Cond.methodLink RL 93 yX11_form ∈ uw := uw_mem 1084 (by decide +kernel) (by decide +kernel)
theorem w1085 : Cond.instanceMethod yX11_form ∈ uw := uw_mem 1085 (by decide +kernel) (by decide +kernel)
theorem w1086 : Cond.selects RX11 yX11_form yX11_form ∈ uw := uw_mem 1086 (by decide +kernel) (by decide +kernel)
theorem w1087 : Cond.code yX11_form cX11_form 6 (some .long) ∈ uw := uw_mem 1087 (by decide +kernel) (by decide +kernel)
theorem w1095 : Cond.methodLink RL 97 yX11_keeps ∈ uw := uw_mem 1095 (by decide +kernel) (by decide +kernel)
theorem w1096 : Cond.instanceMethod yX11_keeps ∈ uw := uw_mem 1096 (by decide +kernel) (by decide +kernel)
theorem w1097 : Cond.selects RX11 yX11_keeps yX11_keeps ∈ uw := uw_mem 1097 (by decide +kernel) (by decide +kernel)
theorem w1098 : Cond.code yX11_keeps cX11_keeps 5 (some .int) ∈ uw := uw_mem 1098 (by decide +kernel) (by decide +kernel)
theorem w1112 : Cond.methodLink RL 101 yX11_image ∈ uw := uw_mem 1112 (by decide +kernel) (by decide +kernel)
theorem w1113 : Cond.instanceMethod yX11_image ∈ uw := uw_mem 1113 (by decide +kernel) (by decide +kernel)
theorem w1114 : Cond.selects RX11 yX11_image yX11_image ∈ uw := uw_mem 1114 (by decide +kernel) (by decide +kernel)
theorem w1115 : Cond.code yX11_image cX11_image 8 (some .int) ∈ uw := uw_mem 1115 (by decide +kernel) (by decide +kernel)
theorem w1127 : Cond.methodLink RL 105 yX11_faithful ∈ uw := uw_mem 1127 (by decide +kernel) (by decide +kernel)
theorem w1128 : Cond.instanceMethod yX11_faithful ∈ uw := uw_mem 1128 (by decide +kernel) (by decide +kernel)
theorem w1129 : Cond.selects RX11 yX11_faithful yX11_faithful ∈ uw := uw_mem 1129 (by decide +kernel) (by decide +kernel)
theorem w1130 : Cond.code yX11_faithful cX11_faithful 5 (some .int) ∈ uw := uw_mem 1130 (by decide +kernel) (by decide +kernel)
theorem w1131 : Cond.methodLink RL 109 yX11_orbit ∈ uw := uw_mem 1131 (by decide +kernel) (by decide +kernel)
theorem w1132 : Cond.instanceMethod yX11_orbit ∈ uw := uw_mem 1132 (by decide +kernel) (by decide +kernel)
theorem w1133 : Cond.selects RX11 yX11_orbit yX11_orbit ∈ uw := uw_mem 1133 (by decide +kernel) (by decide +kernel)
theorem w1134 : Cond.code yX11_orbit cX11_orbit 7 (some .int) ∈ uw := uw_mem 1134 (by decide +kernel) (by decide +kernel)
theorem w1148 : Cond.methodLink RL 113 yX11_point ∈ uw := uw_mem 1148 (by decide +kernel) (by decide +kernel)
theorem w1149 : Cond.instanceMethod yX11_point ∈ uw := uw_mem 1149 (by decide +kernel) (by decide +kernel)
theorem w1150 : Cond.selects RX11 yX11_point yX11_point ∈ uw := uw_mem 1150 (by decide +kernel) (by decide +kernel)
theorem w1151 : Cond.code yX11_point cX11_point 3 (some .long) ∈ uw := uw_mem 1151 (by decide +kernel) (by decide +kernel)
theorem w1152 : Cond.methodLink RL 117 yX11_round ∈ uw := uw_mem 1152 (by decide +kernel) (by decide +kernel)
theorem w1153 : Cond.instanceMethod yX11_round ∈ uw := uw_mem 1153 (by decide +kernel) (by decide +kernel)
theorem w1154 : Cond.selects RX11 yX11_round yX11_round ∈ uw := uw_mem 1154 (by decide +kernel) (by decide +kernel)
theorem w1155 : Cond.code yX11_round cX11_round 2 (some .int) ∈ uw := uw_mem 1155 (by decide +kernel) (by decide +kernel)
theorem w1161 : Cond.methodLink RL 121 yX11_still ∈ uw := uw_mem 1161 (by decide +kernel) (by decide +kernel)
theorem w1162 : Cond.instanceMethod yX11_still ∈ uw := uw_mem 1162 (by decide +kernel) (by decide +kernel)
theorem w1163 : Cond.selects RX11 yX11_still yX11_still ∈ uw := uw_mem 1163 (by decide +kernel) (by decide +kernel)
theorem w1164 : Cond.code yX11_still cX11_still 11 (some .int) ∈ uw := uw_mem 1164 (by decide +kernel) (by decide +kernel)
theorem w1165 : Cond.methodLink RL 125 yX11_seed ∈ uw := uw_mem 1165 (by decide +kernel) (by decide +kernel)
theorem w1166 : Cond.instanceMethod yX11_seed ∈ uw := uw_mem 1166 (by decide +kernel) (by decide +kernel)
theorem w1167 : Cond.selects RX11 yX11_seed yX11_seed ∈ uw := uw_mem 1167 (by decide +kernel) (by decide +kernel)
theorem w1168 : Cond.code yX11_seed cX11_seed 3 (some .int) ∈ uw := uw_mem 1168 (by decide +kernel) (by decide +kernel)
theorem w1169 : Cond.methodLink RL 129 yX11_lot ∈ uw := uw_mem 1169 (by decide +kernel) (by decide +kernel)
theorem w1170 : Cond.instanceMethod yX11_lot ∈ uw := uw_mem 1170 (by decide +kernel) (by decide +kernel)
theorem w1171 : Cond.selects RX11 yX11_lot yX11_lot ∈ uw := uw_mem 1171 (by decide +kernel) (by decide +kernel)
theorem w1172 : Cond.code yX11_lot cX11_lot 7 (some .int) ∈ uw := uw_mem 1172 (by decide +kernel) (by decide +kernel)
theorem w1179 : Cond.methodLink RL 133 yX11_sheet ∈ uw := uw_mem 1179 (by decide +kernel) (by decide +kernel)
theorem w1180 : Cond.instanceMethod yX11_sheet ∈ uw := uw_mem 1180 (by decide +kernel) (by decide +kernel)
theorem w1181 : Cond.selects RX11 yX11_sheet yX11_sheet ∈ uw := uw_mem 1181 (by decide +kernel) (by decide +kernel)
theorem w1182 : Cond.code yX11_sheet cX11_sheet 5 (some .int) ∈ uw := uw_mem 1182 (by decide +kernel) (by decide +kernel)
theorem w1183 : Cond.methodLink RL 138 yX11_put ∈ uw := uw_mem 1183 (by decide +kernel) (by decide +kernel)
theorem w1184 : Cond.instanceMethod yX11_put ∈ uw := uw_mem 1184 (by decide +kernel) (by decide +kernel)
theorem w1185 : Cond.selects RX11 yX11_put yX11_put ∈ uw := uw_mem 1185 (by decide +kernel) (by decide +kernel)
theorem w1186 : Cond.code yX11_put cX11_put 5 (some .int) ∈ uw := uw_mem 1186 (by decide +kernel) (by decide +kernel)
theorem w1190 : Cond.methodLink RL 142 yX11_item ∈ uw := uw_mem 1190 (by decide +kernel) (by decide +kernel)
theorem w1191 : Cond.instanceMethod yX11_item ∈ uw := uw_mem 1191 (by decide +kernel) (by decide +kernel)
theorem w1192 : Cond.selects RX11 yX11_item yX11_item ∈ uw := uw_mem 1192 (by decide +kernel) (by decide +kernel)
theorem w1193 : Cond.code yX11_item cX11_item 4 (some .int) ∈ uw := uw_mem 1193 (by decide +kernel) (by decide +kernel)
theorem w1194 : Cond.methodLink RL 147 yX11_copy ∈ uw := uw_mem 1194 (by decide +kernel) (by decide +kernel)
theorem w1195 : Cond.instanceMethod yX11_copy ∈ uw := uw_mem 1195 (by decide +kernel) (by decide +kernel)
theorem w1196 : Cond.selects RX11 yX11_copy yX11_copy ∈ uw := uw_mem 1196 (by decide +kernel) (by decide +kernel)
theorem w1197 : Cond.code yX11_copy cX11_copy 7 (some .int) ∈ uw := uw_mem 1197 (by decide +kernel) (by decide +kernel)
theorem w1198 : Cond.methodLink RL 151 yX11_lay ∈ uw := uw_mem 1198 (by decide +kernel) (by decide +kernel)
theorem w1199 : Cond.instanceMethod yX11_lay ∈ uw := uw_mem 1199 (by decide +kernel) (by decide +kernel)
theorem w1200 : Cond.selects RX11 yX11_lay yX11_lay ∈ uw := uw_mem 1200 (by decide +kernel) (by decide +kernel)
theorem w1201 : Cond.code yX11_lay cX11_lay 6 (some .int) ∈ uw := uw_mem 1201 (by decide +kernel) (by decide +kernel)
theorem w1206 : Cond.methodLink RL 155 yX11_take ∈ uw := uw_mem 1206 (by decide +kernel) (by decide +kernel)
theorem w1207 : Cond.instanceMethod yX11_take ∈ uw := uw_mem 1207 (by decide +kernel) (by decide +kernel)
theorem w1208 : Cond.selects RX11 yX11_take yX11_take ∈ uw := uw_mem 1208 (by decide +kernel) (by decide +kernel)
theorem w1209 : Cond.code yX11_take cX11_take 8 (some .int) ∈ uw := uw_mem 1209 (by decide +kernel) (by decide +kernel)
theorem w1210 : Cond.methodLink RL 159 yX11_many ∈ uw := uw_mem 1210 (by decide +kernel) (by decide +kernel)
theorem w1211 : Cond.instanceMethod yX11_many ∈ uw := uw_mem 1211 (by decide +kernel) (by decide +kernel)
theorem w1212 : Cond.selects RX11 yX11_many yX11_many ∈ uw := uw_mem 1212 (by decide +kernel) (by decide +kernel)
theorem w1213 : Cond.code yX11_many cX11_many 2 (some .int) ∈ uw := uw_mem 1213 (by decide +kernel) (by decide +kernel)
theorem w1214 : Cond.methodLink RL 163 yX11_keep ∈ uw := uw_mem 1214 (by decide +kernel) (by decide +kernel)
theorem w1215 : Cond.instanceMethod yX11_keep ∈ uw := uw_mem 1215 (by decide +kernel) (by decide +kernel)
theorem w1216 : Cond.selects RX11 yX11_keep yX11_keep ∈ uw := uw_mem 1216 (by decide +kernel) (by decide +kernel)
theorem w1217 : Cond.code yX11_keep cX11_keep 2 (some .int) ∈ uw := uw_mem 1217 (by decide +kernel) (by decide +kernel)
theorem w1218 : Cond.methodLink RL 167 yX11_again ∈ uw := uw_mem 1218 (by decide +kernel) (by decide +kernel)
theorem w1219 : Cond.instanceMethod yX11_again ∈ uw := uw_mem 1219 (by decide +kernel) (by decide +kernel)
theorem w1220 : Cond.selects RX11 yX11_again yX11_again ∈ uw := uw_mem 1220 (by decide +kernel) (by decide +kernel)
theorem w1221 : Cond.code yX11_again cX11_again 2 (some .int) ∈ uw := uw_mem 1221 (by decide +kernel) (by decide +kernel)
theorem w1222 : Cond.constantLong RL 49 (4294967295) ∈ uw := uw_mem 1222 (by decide +kernel) (by decide +kernel)
theorem hdX10_about : yX10_about.cls ≠ "java/lang/invoke/MethodHandle" ∧ yX10_about.cls ≠ "java/lang/invoke/VarHandle" ∧ (parseMethodDescriptor yX10_about.desc).map (fun d => d.parameters.length) = some 2 := by decide +kernel
theorem hdX10_again : yX10_again.cls ≠ "java/lang/invoke/MethodHandle" ∧ yX10_again.cls ≠ "java/lang/invoke/VarHandle" ∧ (parseMethodDescriptor yX10_again.desc).map (fun d => d.parameters.length) = some 0 := by decide +kernel
theorem hdX10_at : yX10_at.cls ≠ "java/lang/invoke/MethodHandle" ∧ yX10_at.cls ≠ "java/lang/invoke/VarHandle" ∧ (parseMethodDescriptor yX10_at.desc).map (fun d => d.parameters.length) = some 3 := by decide +kernel
theorem hdX10_character : yX10_character.cls ≠ "java/lang/invoke/MethodHandle" ∧ yX10_character.cls ≠ "java/lang/invoke/VarHandle" ∧ (parseMethodDescriptor yX10_character.desc).map (fun d => d.parameters.length) = some 2 := by decide +kernel
theorem hdX10_copy : yX10_copy.cls ≠ "java/lang/invoke/MethodHandle" ∧ yX10_copy.cls ≠ "java/lang/invoke/VarHandle" ∧ (parseMethodDescriptor yX10_copy.desc).map (fun d => d.parameters.length) = some 5 := by decide +kernel
theorem hdX10_drop : yX10_drop.cls ≠ "java/lang/invoke/MethodHandle" ∧ yX10_drop.cls ≠ "java/lang/invoke/VarHandle" ∧ (parseMethodDescriptor yX10_drop.desc).map (fun d => d.parameters.length) = some 0 := by decide +kernel
theorem hdX10_element : yX10_element.cls ≠ "java/lang/invoke/MethodHandle" ∧ yX10_element.cls ≠ "java/lang/invoke/VarHandle" ∧ (parseMethodDescriptor yX10_element.desc).map (fun d => d.parameters.length) = some 3 := by decide +kernel
theorem hdX10_factor : yX10_factor.cls ≠ "java/lang/invoke/MethodHandle" ∧ yX10_factor.cls ≠ "java/lang/invoke/VarHandle" ∧ (parseMethodDescriptor yX10_factor.desc).map (fun d => d.parameters.length) = some 2 := by decide +kernel
theorem hdX10_faithful : yX10_faithful.cls ≠ "java/lang/invoke/MethodHandle" ∧ yX10_faithful.cls ≠ "java/lang/invoke/VarHandle" ∧ (parseMethodDescriptor yX10_faithful.desc).map (fun d => d.parameters.length) = some 1 := by decide +kernel
theorem hdX10_feed : yX10_feed.cls ≠ "java/lang/invoke/MethodHandle" ∧ yX10_feed.cls ≠ "java/lang/invoke/VarHandle" ∧ (parseMethodDescriptor yX10_feed.desc).map (fun d => d.parameters.length) = some 2 := by decide +kernel
theorem hdX10_form : yX10_form.cls ≠ "java/lang/invoke/MethodHandle" ∧ yX10_form.cls ≠ "java/lang/invoke/VarHandle" ∧ (parseMethodDescriptor yX10_form.desc).map (fun d => d.parameters.length) = some 2 := by decide +kernel
theorem hdX10_found : yX10_found.cls ≠ "java/lang/invoke/MethodHandle" ∧ yX10_found.cls ≠ "java/lang/invoke/VarHandle" ∧ (parseMethodDescriptor yX10_found.desc).map (fun d => d.parameters.length) = some 1 := by decide +kernel
theorem hdX10_image : yX10_image.cls ≠ "java/lang/invoke/MethodHandle" ∧ yX10_image.cls ≠ "java/lang/invoke/VarHandle" ∧ (parseMethodDescriptor yX10_image.desc).map (fun d => d.parameters.length) = some 1 := by decide +kernel
theorem hdX10_init : yX10_init.cls ≠ "java/lang/invoke/MethodHandle" ∧ yX10_init.cls ≠ "java/lang/invoke/VarHandle" ∧ (parseMethodDescriptor yX10_init.desc).map (fun d => d.parameters.length) = some 0 := by decide +kernel
theorem hdX10_item : yX10_item.cls ≠ "java/lang/invoke/MethodHandle" ∧ yX10_item.cls ≠ "java/lang/invoke/VarHandle" ∧ (parseMethodDescriptor yX10_item.desc).map (fun d => d.parameters.length) = some 3 := by decide +kernel
theorem hdX10_keep : yX10_keep.cls ≠ "java/lang/invoke/MethodHandle" ∧ yX10_keep.cls ≠ "java/lang/invoke/VarHandle" ∧ (parseMethodDescriptor yX10_keep.desc).map (fun d => d.parameters.length) = some 0 := by decide +kernel
theorem hdX10_keeps : yX10_keeps.cls ≠ "java/lang/invoke/MethodHandle" ∧ yX10_keeps.cls ≠ "java/lang/invoke/VarHandle" ∧ (parseMethodDescriptor yX10_keeps.desc).map (fun d => d.parameters.length) = some 2 := by decide +kernel
theorem hdX10_lay : yX10_lay.cls ≠ "java/lang/invoke/MethodHandle" ∧ yX10_lay.cls ≠ "java/lang/invoke/VarHandle" ∧ (parseMethodDescriptor yX10_lay.desc).map (fun d => d.parameters.length) = some 3 := by decide +kernel
theorem hdX10_listed : yX10_listed.cls ≠ "java/lang/invoke/MethodHandle" ∧ yX10_listed.cls ≠ "java/lang/invoke/VarHandle" ∧ (parseMethodDescriptor yX10_listed.desc).map (fun d => d.parameters.length) = some 0 := by decide +kernel
theorem hdX10_lot : yX10_lot.cls ≠ "java/lang/invoke/MethodHandle" ∧ yX10_lot.cls ≠ "java/lang/invoke/VarHandle" ∧ (parseMethodDescriptor yX10_lot.desc).map (fun d => d.parameters.length) = some 1 := by decide +kernel
theorem hdX10_made : yX10_made.cls ≠ "java/lang/invoke/MethodHandle" ∧ yX10_made.cls ≠ "java/lang/invoke/VarHandle" ∧ (parseMethodDescriptor yX10_made.desc).map (fun d => d.parameters.length) = some 3 := by decide +kernel
theorem hdX10_many : yX10_many.cls ≠ "java/lang/invoke/MethodHandle" ∧ yX10_many.cls ≠ "java/lang/invoke/VarHandle" ∧ (parseMethodDescriptor yX10_many.desc).map (fun d => d.parameters.length) = some 1 := by decide +kernel
theorem hdX10_middle : yX10_middle.cls ≠ "java/lang/invoke/MethodHandle" ∧ yX10_middle.cls ≠ "java/lang/invoke/VarHandle" ∧ (parseMethodDescriptor yX10_middle.desc).map (fun d => d.parameters.length) = some 0 := by decide +kernel
theorem hdX10_of : yX10_of.cls ≠ "java/lang/invoke/MethodHandle" ∧ yX10_of.cls ≠ "java/lang/invoke/VarHandle" ∧ (parseMethodDescriptor yX10_of.desc).map (fun d => d.parameters.length) = some 2 := by decide +kernel
theorem hdX10_orbit : yX10_orbit.cls ≠ "java/lang/invoke/MethodHandle" ∧ yX10_orbit.cls ≠ "java/lang/invoke/VarHandle" ∧ (parseMethodDescriptor yX10_orbit.desc).map (fun d => d.parameters.length) = some 3 := by decide +kernel
theorem hdX10_point : yX10_point.cls ≠ "java/lang/invoke/MethodHandle" ∧ yX10_point.cls ≠ "java/lang/invoke/VarHandle" ∧ (parseMethodDescriptor yX10_point.desc).map (fun d => d.parameters.length) = some 2 := by decide +kernel
theorem hdX10_put : yX10_put.cls ≠ "java/lang/invoke/MethodHandle" ∧ yX10_put.cls ≠ "java/lang/invoke/VarHandle" ∧ (parseMethodDescriptor yX10_put.desc).map (fun d => d.parameters.length) = some 3 := by decide +kernel
theorem hdX10_round : yX10_round.cls ≠ "java/lang/invoke/MethodHandle" ∧ yX10_round.cls ≠ "java/lang/invoke/VarHandle" ∧ (parseMethodDescriptor yX10_round.desc).map (fun d => d.parameters.length) = some 1 := by decide +kernel
theorem hdX10_seed : yX10_seed.cls ≠ "java/lang/invoke/MethodHandle" ∧ yX10_seed.cls ≠ "java/lang/invoke/VarHandle" ∧ (parseMethodDescriptor yX10_seed.desc).map (fun d => d.parameters.length) = some 1 := by decide +kernel
theorem hdX10_sheet : yX10_sheet.cls ≠ "java/lang/invoke/MethodHandle" ∧ yX10_sheet.cls ≠ "java/lang/invoke/VarHandle" ∧ (parseMethodDescriptor yX10_sheet.desc).map (fun d => d.parameters.length) = some 3 := by decide +kernel
theorem hdX10_size : yX10_size.cls ≠ "java/lang/invoke/MethodHandle" ∧ yX10_size.cls ≠ "java/lang/invoke/VarHandle" ∧ (parseMethodDescriptor yX10_size.desc).map (fun d => d.parameters.length) = some 1 := by decide +kernel
theorem hdX10_still : yX10_still.cls ≠ "java/lang/invoke/MethodHandle" ∧ yX10_still.cls ≠ "java/lang/invoke/VarHandle" ∧ (parseMethodDescriptor yX10_still.desc).map (fun d => d.parameters.length) = some 3 := by decide +kernel
theorem hdX10_take : yX10_take.cls ≠ "java/lang/invoke/MethodHandle" ∧ yX10_take.cls ≠ "java/lang/invoke/VarHandle" ∧ (parseMethodDescriptor yX10_take.desc).map (fun d => d.parameters.length) = some 2 := by decide +kernel
theorem hdX10_text : yX10_text.cls ≠ "java/lang/invoke/MethodHandle" ∧ yX10_text.cls ≠ "java/lang/invoke/VarHandle" ∧ (parseMethodDescriptor yX10_text.desc).map (fun d => d.parameters.length) = some 0 := by decide +kernel
theorem hdX10_unit : yX10_unit.cls ≠ "java/lang/invoke/MethodHandle" ∧ yX10_unit.cls ≠ "java/lang/invoke/VarHandle" ∧ (parseMethodDescriptor yX10_unit.desc).map (fun d => d.parameters.length) = some 3 := by decide +kernel
theorem hdX10_whole : yX10_whole.cls ≠ "java/lang/invoke/MethodHandle" ∧ yX10_whole.cls ≠ "java/lang/invoke/VarHandle" ∧ (parseMethodDescriptor yX10_whole.desc).map (fun d => d.parameters.length) = some 0 := by decide +kernel
theorem hdX10_witness : yX10_witness.cls ≠ "java/lang/invoke/MethodHandle" ∧ yX10_witness.cls ≠ "java/lang/invoke/VarHandle" ∧ (parseMethodDescriptor yX10_witness.desc).map (fun d => d.parameters.length) = some 0 := by decide +kernel
theorem hdX11_about : yX11_about.cls ≠ "java/lang/invoke/MethodHandle" ∧ yX11_about.cls ≠ "java/lang/invoke/VarHandle" ∧ (parseMethodDescriptor yX11_about.desc).map (fun d => d.parameters.length) = some 2 := by decide +kernel
theorem hdX11_again : yX11_again.cls ≠ "java/lang/invoke/MethodHandle" ∧ yX11_again.cls ≠ "java/lang/invoke/VarHandle" ∧ (parseMethodDescriptor yX11_again.desc).map (fun d => d.parameters.length) = some 0 := by decide +kernel
theorem hdX11_at : yX11_at.cls ≠ "java/lang/invoke/MethodHandle" ∧ yX11_at.cls ≠ "java/lang/invoke/VarHandle" ∧ (parseMethodDescriptor yX11_at.desc).map (fun d => d.parameters.length) = some 3 := by decide +kernel
theorem hdX11_character : yX11_character.cls ≠ "java/lang/invoke/MethodHandle" ∧ yX11_character.cls ≠ "java/lang/invoke/VarHandle" ∧ (parseMethodDescriptor yX11_character.desc).map (fun d => d.parameters.length) = some 2 := by decide +kernel
theorem hdX11_copy : yX11_copy.cls ≠ "java/lang/invoke/MethodHandle" ∧ yX11_copy.cls ≠ "java/lang/invoke/VarHandle" ∧ (parseMethodDescriptor yX11_copy.desc).map (fun d => d.parameters.length) = some 5 := by decide +kernel
theorem hdX11_drop : yX11_drop.cls ≠ "java/lang/invoke/MethodHandle" ∧ yX11_drop.cls ≠ "java/lang/invoke/VarHandle" ∧ (parseMethodDescriptor yX11_drop.desc).map (fun d => d.parameters.length) = some 0 := by decide +kernel
theorem hdX11_element : yX11_element.cls ≠ "java/lang/invoke/MethodHandle" ∧ yX11_element.cls ≠ "java/lang/invoke/VarHandle" ∧ (parseMethodDescriptor yX11_element.desc).map (fun d => d.parameters.length) = some 3 := by decide +kernel
theorem hdX11_factor : yX11_factor.cls ≠ "java/lang/invoke/MethodHandle" ∧ yX11_factor.cls ≠ "java/lang/invoke/VarHandle" ∧ (parseMethodDescriptor yX11_factor.desc).map (fun d => d.parameters.length) = some 2 := by decide +kernel
theorem hdX11_faithful : yX11_faithful.cls ≠ "java/lang/invoke/MethodHandle" ∧ yX11_faithful.cls ≠ "java/lang/invoke/VarHandle" ∧ (parseMethodDescriptor yX11_faithful.desc).map (fun d => d.parameters.length) = some 1 := by decide +kernel
theorem hdX11_feed : yX11_feed.cls ≠ "java/lang/invoke/MethodHandle" ∧ yX11_feed.cls ≠ "java/lang/invoke/VarHandle" ∧ (parseMethodDescriptor yX11_feed.desc).map (fun d => d.parameters.length) = some 2 := by decide +kernel
theorem hdX11_form : yX11_form.cls ≠ "java/lang/invoke/MethodHandle" ∧ yX11_form.cls ≠ "java/lang/invoke/VarHandle" ∧ (parseMethodDescriptor yX11_form.desc).map (fun d => d.parameters.length) = some 2 := by decide +kernel
theorem hdX11_found : yX11_found.cls ≠ "java/lang/invoke/MethodHandle" ∧ yX11_found.cls ≠ "java/lang/invoke/VarHandle" ∧ (parseMethodDescriptor yX11_found.desc).map (fun d => d.parameters.length) = some 1 := by decide +kernel
theorem hdX11_image : yX11_image.cls ≠ "java/lang/invoke/MethodHandle" ∧ yX11_image.cls ≠ "java/lang/invoke/VarHandle" ∧ (parseMethodDescriptor yX11_image.desc).map (fun d => d.parameters.length) = some 1 := by decide +kernel
theorem hdX11_init : yX11_init.cls ≠ "java/lang/invoke/MethodHandle" ∧ yX11_init.cls ≠ "java/lang/invoke/VarHandle" ∧ (parseMethodDescriptor yX11_init.desc).map (fun d => d.parameters.length) = some 0 := by decide +kernel
theorem hdX11_item : yX11_item.cls ≠ "java/lang/invoke/MethodHandle" ∧ yX11_item.cls ≠ "java/lang/invoke/VarHandle" ∧ (parseMethodDescriptor yX11_item.desc).map (fun d => d.parameters.length) = some 3 := by decide +kernel
theorem hdX11_keep : yX11_keep.cls ≠ "java/lang/invoke/MethodHandle" ∧ yX11_keep.cls ≠ "java/lang/invoke/VarHandle" ∧ (parseMethodDescriptor yX11_keep.desc).map (fun d => d.parameters.length) = some 0 := by decide +kernel
theorem hdX11_keeps : yX11_keeps.cls ≠ "java/lang/invoke/MethodHandle" ∧ yX11_keeps.cls ≠ "java/lang/invoke/VarHandle" ∧ (parseMethodDescriptor yX11_keeps.desc).map (fun d => d.parameters.length) = some 2 := by decide +kernel
theorem hdX11_lay : yX11_lay.cls ≠ "java/lang/invoke/MethodHandle" ∧ yX11_lay.cls ≠ "java/lang/invoke/VarHandle" ∧ (parseMethodDescriptor yX11_lay.desc).map (fun d => d.parameters.length) = some 3 := by decide +kernel
theorem hdX11_listed : yX11_listed.cls ≠ "java/lang/invoke/MethodHandle" ∧ yX11_listed.cls ≠ "java/lang/invoke/VarHandle" ∧ (parseMethodDescriptor yX11_listed.desc).map (fun d => d.parameters.length) = some 0 := by decide +kernel
theorem hdX11_lot : yX11_lot.cls ≠ "java/lang/invoke/MethodHandle" ∧ yX11_lot.cls ≠ "java/lang/invoke/VarHandle" ∧ (parseMethodDescriptor yX11_lot.desc).map (fun d => d.parameters.length) = some 1 := by decide +kernel
theorem hdX11_made : yX11_made.cls ≠ "java/lang/invoke/MethodHandle" ∧ yX11_made.cls ≠ "java/lang/invoke/VarHandle" ∧ (parseMethodDescriptor yX11_made.desc).map (fun d => d.parameters.length) = some 3 := by decide +kernel
theorem hdX11_many : yX11_many.cls ≠ "java/lang/invoke/MethodHandle" ∧ yX11_many.cls ≠ "java/lang/invoke/VarHandle" ∧ (parseMethodDescriptor yX11_many.desc).map (fun d => d.parameters.length) = some 1 := by decide +kernel
theorem hdX11_middle : yX11_middle.cls ≠ "java/lang/invoke/MethodHandle" ∧ yX11_middle.cls ≠ "java/lang/invoke/VarHandle" ∧ (parseMethodDescriptor yX11_middle.desc).map (fun d => d.parameters.length) = some 0 := by decide +kernel
theorem hdX11_of : yX11_of.cls ≠ "java/lang/invoke/MethodHandle" ∧ yX11_of.cls ≠ "java/lang/invoke/VarHandle" ∧ (parseMethodDescriptor yX11_of.desc).map (fun d => d.parameters.length) = some 2 := by decide +kernel
theorem hdX11_orbit : yX11_orbit.cls ≠ "java/lang/invoke/MethodHandle" ∧ yX11_orbit.cls ≠ "java/lang/invoke/VarHandle" ∧ (parseMethodDescriptor yX11_orbit.desc).map (fun d => d.parameters.length) = some 3 := by decide +kernel
theorem hdX11_point : yX11_point.cls ≠ "java/lang/invoke/MethodHandle" ∧ yX11_point.cls ≠ "java/lang/invoke/VarHandle" ∧ (parseMethodDescriptor yX11_point.desc).map (fun d => d.parameters.length) = some 2 := by decide +kernel
theorem hdX11_put : yX11_put.cls ≠ "java/lang/invoke/MethodHandle" ∧ yX11_put.cls ≠ "java/lang/invoke/VarHandle" ∧ (parseMethodDescriptor yX11_put.desc).map (fun d => d.parameters.length) = some 3 := by decide +kernel
theorem hdX11_round : yX11_round.cls ≠ "java/lang/invoke/MethodHandle" ∧ yX11_round.cls ≠ "java/lang/invoke/VarHandle" ∧ (parseMethodDescriptor yX11_round.desc).map (fun d => d.parameters.length) = some 1 := by decide +kernel
theorem hdX11_seed : yX11_seed.cls ≠ "java/lang/invoke/MethodHandle" ∧ yX11_seed.cls ≠ "java/lang/invoke/VarHandle" ∧ (parseMethodDescriptor yX11_seed.desc).map (fun d => d.parameters.length) = some 1 := by decide +kernel
theorem hdX11_sheet : yX11_sheet.cls ≠ "java/lang/invoke/MethodHandle" ∧ yX11_sheet.cls ≠ "java/lang/invoke/VarHandle" ∧ (parseMethodDescriptor yX11_sheet.desc).map (fun d => d.parameters.length) = some 3 := by decide +kernel
theorem hdX11_size : yX11_size.cls ≠ "java/lang/invoke/MethodHandle" ∧ yX11_size.cls ≠ "java/lang/invoke/VarHandle" ∧ (parseMethodDescriptor yX11_size.desc).map (fun d => d.parameters.length) = some 1 := by decide +kernel
theorem hdX11_still : yX11_still.cls ≠ "java/lang/invoke/MethodHandle" ∧ yX11_still.cls ≠ "java/lang/invoke/VarHandle" ∧ (parseMethodDescriptor yX11_still.desc).map (fun d => d.parameters.length) = some 3 := by decide +kernel
theorem hdX11_take : yX11_take.cls ≠ "java/lang/invoke/MethodHandle" ∧ yX11_take.cls ≠ "java/lang/invoke/VarHandle" ∧ (parseMethodDescriptor yX11_take.desc).map (fun d => d.parameters.length) = some 2 := by decide +kernel
theorem hdX11_text : yX11_text.cls ≠ "java/lang/invoke/MethodHandle" ∧ yX11_text.cls ≠ "java/lang/invoke/VarHandle" ∧ (parseMethodDescriptor yX11_text.desc).map (fun d => d.parameters.length) = some 0 := by decide +kernel
theorem hdX11_unit : yX11_unit.cls ≠ "java/lang/invoke/MethodHandle" ∧ yX11_unit.cls ≠ "java/lang/invoke/VarHandle" ∧ (parseMethodDescriptor yX11_unit.desc).map (fun d => d.parameters.length) = some 3 := by decide +kernel
theorem hdX11_whole : yX11_whole.cls ≠ "java/lang/invoke/MethodHandle" ∧ yX11_whole.cls ≠ "java/lang/invoke/VarHandle" ∧ (parseMethodDescriptor yX11_whole.desc).map (fun d => d.parameters.length) = some 0 := by decide +kernel
theorem hdX11_witness : yX11_witness.cls ≠ "java/lang/invoke/MethodHandle" ∧ yX11_witness.cls ≠ "java/lang/invoke/VarHandle" ∧ (parseMethodDescriptor yX11_witness.desc).map (fun d => d.parameters.length) = some 0 := by decide +kernel
