theorem dL_law_545 : decode cL_law 545 = .ok (.aload_n 1, 1) := by decide +kernel
theorem dL_law_546 : decode cL_law 546 = .ok (.aload_n 0, 1) := by decide +kernel
theorem dL_law_547 : decode cL_law 547 = .ok (.iload 4, 2) := by decide +kernel
theorem dL_law_549 : decode cL_law 549 = .ok (.iconst 1, 1) := by decide +kernel
theorem dL_law_550 : decode cL_law 550 = .ok (.iadd, 1) := by decide +kernel
theorem dL_law_551 : decode cL_law 551 = .ok (.iaload, 1) := by decide +kernel
theorem dL_law_552 : decode cL_law 552 = .ok (.aload_n 0, 1) := by decide +kernel
theorem dL_law_553 : decode cL_law 553 = .ok (.iload 4, 2) := by decide +kernel
theorem dL_law_555 : decode cL_law 555 = .ok (.iconst 2, 1) := by decide +kernel
theorem dL_law_556 : decode cL_law 556 = .ok (.iadd, 1) := by decide +kernel
theorem dL_law_557 : decode cL_law 557 = .ok (.iaload, 1) := by decide +kernel
theorem dL_law_558 : decode cL_law 558 = .ok (.aload_n 0, 1) := by decide +kernel
theorem dL_law_559 : decode cL_law 559 = .ok (.iload 4, 2) := by decide +kernel
theorem dL_law_561 : decode cL_law 561 = .ok (.iconst 3, 1) := by decide +kernel
theorem dL_law_562 : decode cL_law 562 = .ok (.iadd, 1) := by decide +kernel
theorem dL_law_563 : decode cL_law 563 = .ok (.iaload, 1) := by decide +kernel
theorem dL_law_564 : decode cL_law 564 = .ok (.aload_n 3, 1) := by decide +kernel
theorem dL_law_565 : decode cL_law 565 = .ok (.invokestatic 122, 3) := by decide +kernel
theorem dL_law_568 : decode cL_law 568 = .ok (.istore 5, 2) := by decide +kernel
theorem dL_law_570 : decode cL_law 570 = .ok (.aload_n 2, 1) := by decide +kernel
theorem dL_law_571 : decode cL_law 571 = .ok (.aload_n 0, 1) := by decide +kernel
theorem dL_law_572 : decode cL_law 572 = .ok (.iload 4, 2) := by decide +kernel
theorem dL_law_574 : decode cL_law 574 = .ok (.iconst 1, 1) := by decide +kernel
theorem dL_law_575 : decode cL_law 575 = .ok (.iadd, 1) := by decide +kernel
theorem dL_law_576 : decode cL_law 576 = .ok (.iaload, 1) := by decide +kernel
theorem dL_law_577 : decode cL_law 577 = .ok (.aload_n 0, 1) := by decide +kernel
theorem dL_law_578 : decode cL_law 578 = .ok (.iload 4, 2) := by decide +kernel
theorem dL_law_580 : decode cL_law 580 = .ok (.iconst 2, 1) := by decide +kernel
theorem dL_law_581 : decode cL_law 581 = .ok (.iadd, 1) := by decide +kernel
theorem dL_law_582 : decode cL_law 582 = .ok (.iaload, 1) := by decide +kernel
theorem dL_law_583 : decode cL_law 583 = .ok (.aload_n 0, 1) := by decide +kernel
theorem dL_law_584 : decode cL_law 584 = .ok (.iload 4, 2) := by decide +kernel
theorem dL_law_586 : decode cL_law 586 = .ok (.iconst 3, 1) := by decide +kernel
theorem dL_law_587 : decode cL_law 587 = .ok (.iadd, 1) := by decide +kernel
theorem dL_law_588 : decode cL_law 588 = .ok (.iaload, 1) := by decide +kernel
theorem dL_law_589 : decode cL_law 589 = .ok (.invokevirtual 125, 3) := by decide +kernel
theorem dL_law_592 : decode cL_law 592 = .ok (.istore 6, 2) := by decide +kernel
theorem dL_law_594 : decode cL_law 594 = .ok (.aload_n 2, 1) := by decide +kernel
theorem dL_law_595 : decode cL_law 595 = .ok (.invokevirtual 102, 3) := by decide +kernel
theorem dL_law_598 : decode cL_law 598 = .ok (.iload 5, 2) := by decide +kernel
theorem dL_law_600 : decode cL_law 600 = .ok (.if_icmp .eq 5, 3) := by decide +kernel
theorem dL_law_605 : decode cL_law 605 = .ok (.iload 5, 2) := by decide +kernel
theorem dL_law_607 : decode cL_law 607 = .ok (.ifCond .ne 15, 3) := by decide +kernel
theorem dL_law_622 : decode cL_law 622 = .ok (.goto 1255, 3) := by decide +kernel
theorem dL_law_625 : decode cL_law 625 = .ok (.aload_n 1, 1) := by decide +kernel
theorem dL_law_626 : decode cL_law 626 = .ok (.aload_n 0, 1) := by decide +kernel
theorem dL_law_627 : decode cL_law 627 = .ok (.iload 4, 2) := by decide +kernel
theorem dL_law_629 : decode cL_law 629 = .ok (.iconst 1, 1) := by decide +kernel
theorem dL_law_630 : decode cL_law 630 = .ok (.iadd, 1) := by decide +kernel
theorem dL_law_631 : decode cL_law 631 = .ok (.iaload, 1) := by decide +kernel
theorem dL_law_632 : decode cL_law 632 = .ok (.aload_n 0, 1) := by decide +kernel
theorem dL_law_633 : decode cL_law 633 = .ok (.iload 4, 2) := by decide +kernel
theorem dL_law_635 : decode cL_law 635 = .ok (.iconst 2, 1) := by decide +kernel
theorem dL_law_636 : decode cL_law 636 = .ok (.iadd, 1) := by decide +kernel
theorem dL_law_637 : decode cL_law 637 = .ok (.iaload, 1) := by decide +kernel
theorem dL_law_638 : decode cL_law 638 = .ok (.aload_n 3, 1) := by decide +kernel
theorem dL_law_639 : decode cL_law 639 = .ok (.invokestatic 126, 3) := by decide +kernel
theorem dL_law_642 : decode cL_law 642 = .ok (.istore 5, 2) := by decide +kernel
theorem dL_law_644 : decode cL_law 644 = .ok (.aload_n 2, 1) := by decide +kernel
theorem dL_law_645 : decode cL_law 645 = .ok (.aload_n 0, 1) := by decide +kernel
theorem dL_law_646 : decode cL_law 646 = .ok (.iload 4, 2) := by decide +kernel
theorem dL_law_648 : decode cL_law 648 = .ok (.iconst 1, 1) := by decide +kernel
theorem dL_law_649 : decode cL_law 649 = .ok (.iadd, 1) := by decide +kernel
theorem dL_law_650 : decode cL_law 650 = .ok (.iaload, 1) := by decide +kernel
theorem dL_law_651 : decode cL_law 651 = .ok (.aload_n 0, 1) := by decide +kernel
theorem dL_law_652 : decode cL_law 652 = .ok (.iload 4, 2) := by decide +kernel
theorem dL_law_654 : decode cL_law 654 = .ok (.iconst 2, 1) := by decide +kernel
theorem dL_law_655 : decode cL_law 655 = .ok (.iadd, 1) := by decide +kernel
theorem dL_law_656 : decode cL_law 656 = .ok (.iaload, 1) := by decide +kernel
theorem dL_law_657 : decode cL_law 657 = .ok (.invokevirtual 128, 3) := by decide +kernel
theorem dL_law_660 : decode cL_law 660 = .ok (.istore 6, 2) := by decide +kernel
theorem dL_law_662 : decode cL_law 662 = .ok (.aload_n 2, 1) := by decide +kernel
theorem dL_law_663 : decode cL_law 663 = .ok (.invokevirtual 102, 3) := by decide +kernel
theorem dL_law_666 : decode cL_law 666 = .ok (.iload 5, 2) := by decide +kernel
theorem dL_law_668 : decode cL_law 668 = .ok (.if_icmp .eq 5, 3) := by decide +kernel
theorem dL_law_673 : decode cL_law 673 = .ok (.iload 5, 2) := by decide +kernel
theorem dL_law_675 : decode cL_law 675 = .ok (.ifCond .ne 15, 3) := by decide +kernel
theorem dL_law_690 : decode cL_law 690 = .ok (.goto 1187, 3) := by decide +kernel
theorem dL_law_693 : decode cL_law 693 = .ok (.aload_n 1, 1) := by decide +kernel
theorem dL_law_694 : decode cL_law 694 = .ok (.aload_n 0, 1) := by decide +kernel
theorem dL_law_695 : decode cL_law 695 = .ok (.iload 4, 2) := by decide +kernel
theorem dL_law_697 : decode cL_law 697 = .ok (.iconst 1, 1) := by decide +kernel
theorem dL_law_698 : decode cL_law 698 = .ok (.iadd, 1) := by decide +kernel
theorem dL_law_699 : decode cL_law 699 = .ok (.iaload, 1) := by decide +kernel
theorem dL_law_700 : decode cL_law 700 = .ok (.aload_n 0, 1) := by decide +kernel
theorem dL_law_701 : decode cL_law 701 = .ok (.iload 4, 2) := by decide +kernel
theorem dL_law_703 : decode cL_law 703 = .ok (.iconst 2, 1) := by decide +kernel
theorem dL_law_704 : decode cL_law 704 = .ok (.iadd, 1) := by decide +kernel
theorem dL_law_705 : decode cL_law 705 = .ok (.iaload, 1) := by decide +kernel
theorem dL_law_706 : decode cL_law 706 = .ok (.aload_n 0, 1) := by decide +kernel
theorem dL_law_707 : decode cL_law 707 = .ok (.iload 4, 2) := by decide +kernel
theorem dL_law_709 : decode cL_law 709 = .ok (.iconst 3, 1) := by decide +kernel
theorem dL_law_710 : decode cL_law 710 = .ok (.iadd, 1) := by decide +kernel
theorem dL_law_711 : decode cL_law 711 = .ok (.iaload, 1) := by decide +kernel
theorem dL_law_712 : decode cL_law 712 = .ok (.aload_n 0, 1) := by decide +kernel
theorem dL_law_713 : decode cL_law 713 = .ok (.iload 4, 2) := by decide +kernel
theorem dL_law_715 : decode cL_law 715 = .ok (.iconst 4, 1) := by decide +kernel
theorem dL_law_716 : decode cL_law 716 = .ok (.iadd, 1) := by decide +kernel
theorem dL_law_717 : decode cL_law 717 = .ok (.iaload, 1) := by decide +kernel
theorem dL_law_718 : decode cL_law 718 = .ok (.aload_n 3, 1) := by decide +kernel
theorem dL_law_719 : decode cL_law 719 = .ok (.invokestatic 129, 3) := by decide +kernel
theorem dL_law_722 : decode cL_law 722 = .ok (.istore 5, 2) := by decide +kernel
theorem dL_law_724 : decode cL_law 724 = .ok (.aload_n 2, 1) := by decide +kernel
theorem dL_law_725 : decode cL_law 725 = .ok (.aload_n 0, 1) := by decide +kernel
theorem dL_law_726 : decode cL_law 726 = .ok (.iload 4, 2) := by decide +kernel
theorem dL_law_728 : decode cL_law 728 = .ok (.iconst 1, 1) := by decide +kernel
theorem dL_law_729 : decode cL_law 729 = .ok (.iadd, 1) := by decide +kernel
theorem dL_law_730 : decode cL_law 730 = .ok (.iaload, 1) := by decide +kernel
theorem dL_law_731 : decode cL_law 731 = .ok (.aload_n 0, 1) := by decide +kernel
theorem dL_law_732 : decode cL_law 732 = .ok (.iload 4, 2) := by decide +kernel
theorem dL_law_734 : decode cL_law 734 = .ok (.iconst 2, 1) := by decide +kernel
theorem dL_law_735 : decode cL_law 735 = .ok (.iadd, 1) := by decide +kernel
theorem dL_law_736 : decode cL_law 736 = .ok (.iaload, 1) := by decide +kernel
theorem dL_law_737 : decode cL_law 737 = .ok (.aload_n 0, 1) := by decide +kernel
theorem dL_law_738 : decode cL_law 738 = .ok (.iload 4, 2) := by decide +kernel
theorem dL_law_740 : decode cL_law 740 = .ok (.iconst 3, 1) := by decide +kernel
theorem dL_law_741 : decode cL_law 741 = .ok (.iadd, 1) := by decide +kernel
theorem dL_law_742 : decode cL_law 742 = .ok (.iaload, 1) := by decide +kernel
theorem dL_law_743 : decode cL_law 743 = .ok (.aload_n 0, 1) := by decide +kernel
theorem dL_law_744 : decode cL_law 744 = .ok (.iload 4, 2) := by decide +kernel
theorem dL_law_746 : decode cL_law 746 = .ok (.iconst 4, 1) := by decide +kernel
theorem dL_law_747 : decode cL_law 747 = .ok (.iadd, 1) := by decide +kernel
theorem dL_law_748 : decode cL_law 748 = .ok (.iaload, 1) := by decide +kernel
theorem dL_law_749 : decode cL_law 749 = .ok (.invokevirtual 132, 3) := by decide +kernel
theorem dL_law_752 : decode cL_law 752 = .ok (.istore 6, 2) := by decide +kernel
theorem dL_law_754 : decode cL_law 754 = .ok (.aload_n 2, 1) := by decide +kernel
theorem dL_law_755 : decode cL_law 755 = .ok (.invokevirtual 102, 3) := by decide +kernel
theorem dL_law_758 : decode cL_law 758 = .ok (.iload 5, 2) := by decide +kernel
theorem dL_law_760 : decode cL_law 760 = .ok (.if_icmp .eq 5, 3) := by decide +kernel
theorem dL_law_765 : decode cL_law 765 = .ok (.iload 5, 2) := by decide +kernel
theorem dL_law_767 : decode cL_law 767 = .ok (.ifCond .ne 15, 3) := by decide +kernel
theorem dL_law_782 : decode cL_law 782 = .ok (.goto 1095, 3) := by decide +kernel
theorem dL_law_785 : decode cL_law 785 = .ok (.aload_n 1, 1) := by decide +kernel
theorem dL_law_786 : decode cL_law 786 = .ok (.aload_n 0, 1) := by decide +kernel
theorem dL_law_787 : decode cL_law 787 = .ok (.iload 4, 2) := by decide +kernel
theorem dL_law_789 : decode cL_law 789 = .ok (.iconst 1, 1) := by decide +kernel
theorem dL_law_790 : decode cL_law 790 = .ok (.iadd, 1) := by decide +kernel
theorem dL_law_791 : decode cL_law 791 = .ok (.iaload, 1) := by decide +kernel
theorem dL_law_792 : decode cL_law 792 = .ok (.aload_n 0, 1) := by decide +kernel
theorem dL_law_793 : decode cL_law 793 = .ok (.iload 4, 2) := by decide +kernel
theorem dL_law_795 : decode cL_law 795 = .ok (.iconst 2, 1) := by decide +kernel
theorem dL_law_796 : decode cL_law 796 = .ok (.iadd, 1) := by decide +kernel
theorem dL_law_797 : decode cL_law 797 = .ok (.iaload, 1) := by decide +kernel
theorem dL_law_798 : decode cL_law 798 = .ok (.aload_n 0, 1) := by decide +kernel
theorem dL_law_799 : decode cL_law 799 = .ok (.iload 4, 2) := by decide +kernel
theorem dL_law_801 : decode cL_law 801 = .ok (.iconst 3, 1) := by decide +kernel
theorem dL_law_802 : decode cL_law 802 = .ok (.iadd, 1) := by decide +kernel
theorem dL_law_803 : decode cL_law 803 = .ok (.iaload, 1) := by decide +kernel
theorem dL_law_804 : decode cL_law 804 = .ok (.aload_n 0, 1) := by decide +kernel
theorem dL_law_805 : decode cL_law 805 = .ok (.iload 4, 2) := by decide +kernel
theorem dL_law_807 : decode cL_law 807 = .ok (.iconst 4, 1) := by decide +kernel
theorem dL_law_808 : decode cL_law 808 = .ok (.iadd, 1) := by decide +kernel
theorem dL_law_809 : decode cL_law 809 = .ok (.iaload, 1) := by decide +kernel
theorem dL_law_810 : decode cL_law 810 = .ok (.aload_n 0, 1) := by decide +kernel
theorem dL_law_811 : decode cL_law 811 = .ok (.iload 4, 2) := by decide +kernel
theorem dL_law_813 : decode cL_law 813 = .ok (.iconst 5, 1) := by decide +kernel
theorem dL_law_814 : decode cL_law 814 = .ok (.iadd, 1) := by decide +kernel
theorem dL_law_815 : decode cL_law 815 = .ok (.iaload, 1) := by decide +kernel
theorem dL_law_816 : decode cL_law 816 = .ok (.aload_n 0, 1) := by decide +kernel
theorem dL_law_817 : decode cL_law 817 = .ok (.iload 4, 2) := by decide +kernel
theorem dL_law_819 : decode cL_law 819 = .ok (.bipush 6, 2) := by decide +kernel
theorem dL_law_821 : decode cL_law 821 = .ok (.iadd, 1) := by decide +kernel
theorem dL_law_822 : decode cL_law 822 = .ok (.iaload, 1) := by decide +kernel
theorem dL_law_823 : decode cL_law 823 = .ok (.aload_n 0, 1) := by decide +kernel
theorem dL_law_824 : decode cL_law 824 = .ok (.iload 4, 2) := by decide +kernel
theorem dL_law_826 : decode cL_law 826 = .ok (.bipush 7, 2) := by decide +kernel
theorem dL_law_828 : decode cL_law 828 = .ok (.iadd, 1) := by decide +kernel
theorem dL_law_829 : decode cL_law 829 = .ok (.iaload, 1) := by decide +kernel
theorem dL_law_830 : decode cL_law 830 = .ok (.ifCond .eq 7, 3) := by decide +kernel
theorem dL_law_833 : decode cL_law 833 = .ok (.iconst 1, 1) := by decide +kernel
theorem dL_law_834 : decode cL_law 834 = .ok (.goto 4, 3) := by decide +kernel
theorem dL_law_837 : decode cL_law 837 = .ok (.iconst 0, 1) := by decide +kernel
theorem dL_law_838 : decode cL_law 838 = .ok (.aload_n 3, 1) := by decide +kernel
theorem dL_law_839 : decode cL_law 839 = .ok (.invokestatic 133, 3) := by decide +kernel
theorem dL_law_842 : decode cL_law 842 = .ok (.istore 5, 2) := by decide +kernel
theorem dL_law_844 : decode cL_law 844 = .ok (.aload_n 2, 1) := by decide +kernel
theorem dL_law_845 : decode cL_law 845 = .ok (.aload_n 0, 1) := by decide +kernel
theorem dL_law_846 : decode cL_law 846 = .ok (.iload 4, 2) := by decide +kernel
theorem dL_law_848 : decode cL_law 848 = .ok (.iconst 1, 1) := by decide +kernel
theorem dL_law_849 : decode cL_law 849 = .ok (.iadd, 1) := by decide +kernel
theorem dL_law_850 : decode cL_law 850 = .ok (.iaload, 1) := by decide +kernel
theorem dL_law_851 : decode cL_law 851 = .ok (.aload_n 0, 1) := by decide +kernel
theorem dL_law_852 : decode cL_law 852 = .ok (.iload 4, 2) := by decide +kernel
theorem dL_law_854 : decode cL_law 854 = .ok (.iconst 2, 1) := by decide +kernel
theorem dL_law_855 : decode cL_law 855 = .ok (.iadd, 1) := by decide +kernel
theorem dL_law_856 : decode cL_law 856 = .ok (.iaload, 1) := by decide +kernel
theorem dL_law_857 : decode cL_law 857 = .ok (.aload_n 0, 1) := by decide +kernel
theorem dL_law_858 : decode cL_law 858 = .ok (.iload 4, 2) := by decide +kernel
theorem dL_law_860 : decode cL_law 860 = .ok (.iconst 3, 1) := by decide +kernel
theorem dL_law_861 : decode cL_law 861 = .ok (.iadd, 1) := by decide +kernel
theorem dL_law_862 : decode cL_law 862 = .ok (.iaload, 1) := by decide +kernel
theorem dL_law_863 : decode cL_law 863 = .ok (.aload_n 0, 1) := by decide +kernel
theorem dL_law_864 : decode cL_law 864 = .ok (.iload 4, 2) := by decide +kernel
theorem dL_law_866 : decode cL_law 866 = .ok (.iconst 4, 1) := by decide +kernel
theorem dL_law_867 : decode cL_law 867 = .ok (.iadd, 1) := by decide +kernel
theorem dL_law_868 : decode cL_law 868 = .ok (.iaload, 1) := by decide +kernel
theorem dL_law_869 : decode cL_law 869 = .ok (.aload_n 0, 1) := by decide +kernel
theorem dL_law_870 : decode cL_law 870 = .ok (.iload 4, 2) := by decide +kernel
theorem dL_law_872 : decode cL_law 872 = .ok (.iconst 5, 1) := by decide +kernel
theorem dL_law_873 : decode cL_law 873 = .ok (.iadd, 1) := by decide +kernel
theorem dL_law_874 : decode cL_law 874 = .ok (.iaload, 1) := by decide +kernel
theorem dL_law_875 : decode cL_law 875 = .ok (.aload_n 0, 1) := by decide +kernel
theorem dL_law_876 : decode cL_law 876 = .ok (.iload 4, 2) := by decide +kernel
theorem dL_law_878 : decode cL_law 878 = .ok (.bipush 6, 2) := by decide +kernel
theorem dL_law_880 : decode cL_law 880 = .ok (.iadd, 1) := by decide +kernel
theorem dL_law_881 : decode cL_law 881 = .ok (.iaload, 1) := by decide +kernel
theorem dL_law_882 : decode cL_law 882 = .ok (.aload_n 0, 1) := by decide +kernel
theorem dL_law_883 : decode cL_law 883 = .ok (.iload 4, 2) := by decide +kernel
theorem dL_law_885 : decode cL_law 885 = .ok (.bipush 7, 2) := by decide +kernel
theorem dL_law_887 : decode cL_law 887 = .ok (.iadd, 1) := by decide +kernel
theorem dL_law_888 : decode cL_law 888 = .ok (.iaload, 1) := by decide +kernel
theorem dL_law_889 : decode cL_law 889 = .ok (.ifCond .eq 7, 3) := by decide +kernel
theorem dL_law_892 : decode cL_law 892 = .ok (.iconst 1, 1) := by decide +kernel
theorem dL_law_893 : decode cL_law 893 = .ok (.goto 4, 3) := by decide +kernel
theorem dL_law_896 : decode cL_law 896 = .ok (.iconst 0, 1) := by decide +kernel
theorem dL_law_897 : decode cL_law 897 = .ok (.invokevirtual 136, 3) := by decide +kernel
theorem dL_law_900 : decode cL_law 900 = .ok (.istore 6, 2) := by decide +kernel
theorem dL_law_902 : decode cL_law 902 = .ok (.aload_n 2, 1) := by decide +kernel
theorem dL_law_903 : decode cL_law 903 = .ok (.invokevirtual 102, 3) := by decide +kernel
theorem dL_law_906 : decode cL_law 906 = .ok (.iload 5, 2) := by decide +kernel
theorem dL_law_908 : decode cL_law 908 = .ok (.if_icmp .eq 5, 3) := by decide +kernel
theorem dL_law_913 : decode cL_law 913 = .ok (.iload 5, 2) := by decide +kernel
theorem dL_law_915 : decode cL_law 915 = .ok (.ifCond .ne 15, 3) := by decide +kernel
theorem dL_law_930 : decode cL_law 930 = .ok (.goto 947, 3) := by decide +kernel
theorem dL_law_933 : decode cL_law 933 = .ok (.aload_n 1, 1) := by decide +kernel
theorem dL_law_934 : decode cL_law 934 = .ok (.aload_n 0, 1) := by decide +kernel
theorem dL_law_935 : decode cL_law 935 = .ok (.iload 4, 2) := by decide +kernel
theorem dL_law_937 : decode cL_law 937 = .ok (.iconst 1, 1) := by decide +kernel
theorem dL_law_938 : decode cL_law 938 = .ok (.iadd, 1) := by decide +kernel
theorem dL_law_939 : decode cL_law 939 = .ok (.iaload, 1) := by decide +kernel
theorem dL_law_940 : decode cL_law 940 = .ok (.aload_n 0, 1) := by decide +kernel
theorem dL_law_941 : decode cL_law 941 = .ok (.iload 4, 2) := by decide +kernel
theorem dL_law_943 : decode cL_law 943 = .ok (.iconst 2, 1) := by decide +kernel
theorem dL_law_944 : decode cL_law 944 = .ok (.iadd, 1) := by decide +kernel
theorem dL_law_945 : decode cL_law 945 = .ok (.iaload, 1) := by decide +kernel
theorem dL_law_946 : decode cL_law 946 = .ok (.ifCond .eq 7, 3) := by decide +kernel
theorem dL_law_949 : decode cL_law 949 = .ok (.iconst 1, 1) := by decide +kernel
theorem dL_law_950 : decode cL_law 950 = .ok (.goto 4, 3) := by decide +kernel
theorem dL_law_953 : decode cL_law 953 = .ok (.iconst 0, 1) := by decide +kernel
theorem dL_law_954 : decode cL_law 954 = .ok (.aload_n 3, 1) := by decide +kernel
theorem dL_law_955 : decode cL_law 955 = .ok (.invokestatic 137, 3) := by decide +kernel
theorem dL_law_958 : decode cL_law 958 = .ok (.istore 5, 2) := by decide +kernel
theorem dL_law_960 : decode cL_law 960 = .ok (.aload_n 2, 1) := by decide +kernel
theorem dL_law_961 : decode cL_law 961 = .ok (.aload_n 0, 1) := by decide +kernel
theorem dL_law_962 : decode cL_law 962 = .ok (.iload 4, 2) := by decide +kernel
theorem dL_law_964 : decode cL_law 964 = .ok (.iconst 1, 1) := by decide +kernel
theorem dL_law_965 : decode cL_law 965 = .ok (.iadd, 1) := by decide +kernel
theorem dL_law_966 : decode cL_law 966 = .ok (.iaload, 1) := by decide +kernel
theorem dL_law_967 : decode cL_law 967 = .ok (.aload_n 0, 1) := by decide +kernel
theorem dL_law_968 : decode cL_law 968 = .ok (.iload 4, 2) := by decide +kernel
theorem dL_law_970 : decode cL_law 970 = .ok (.iconst 2, 1) := by decide +kernel
theorem dL_law_971 : decode cL_law 971 = .ok (.iadd, 1) := by decide +kernel
theorem dL_law_972 : decode cL_law 972 = .ok (.iaload, 1) := by decide +kernel
theorem dL_law_973 : decode cL_law 973 = .ok (.ifCond .eq 7, 3) := by decide +kernel
theorem dL_law_976 : decode cL_law 976 = .ok (.iconst 1, 1) := by decide +kernel
theorem dL_law_977 : decode cL_law 977 = .ok (.goto 4, 3) := by decide +kernel
theorem dL_law_980 : decode cL_law 980 = .ok (.iconst 0, 1) := by decide +kernel
theorem dL_law_981 : decode cL_law 981 = .ok (.invokevirtual 140, 3) := by decide +kernel
theorem dL_law_984 : decode cL_law 984 = .ok (.istore 6, 2) := by decide +kernel
theorem dL_law_986 : decode cL_law 986 = .ok (.aload_n 2, 1) := by decide +kernel
theorem dL_law_987 : decode cL_law 987 = .ok (.invokevirtual 102, 3) := by decide +kernel
theorem dL_law_990 : decode cL_law 990 = .ok (.iload 5, 2) := by decide +kernel
theorem dL_law_992 : decode cL_law 992 = .ok (.if_icmp .eq 5, 3) := by decide +kernel
theorem dL_law_997 : decode cL_law 997 = .ok (.iload 5, 2) := by decide +kernel
theorem dL_law_999 : decode cL_law 999 = .ok (.ifCond .ne 22, 3) := by decide +kernel
theorem dL_law_1021 : decode cL_law 1021 = .ok (.goto 856, 3) := by decide +kernel
theorem dL_law_1024 : decode cL_law 1024 = .ok (.aload_n 1, 1) := by decide +kernel
theorem dL_law_1025 : decode cL_law 1025 = .ok (.aload_n 0, 1) := by decide +kernel
theorem dL_law_1026 : decode cL_law 1026 = .ok (.iload 4, 2) := by decide +kernel
theorem dL_law_1028 : decode cL_law 1028 = .ok (.iconst 1, 1) := by decide +kernel
theorem dL_law_1029 : decode cL_law 1029 = .ok (.iadd, 1) := by decide +kernel
theorem dL_law_1030 : decode cL_law 1030 = .ok (.iaload, 1) := by decide +kernel
theorem dL_law_1031 : decode cL_law 1031 = .ok (.aload_n 0, 1) := by decide +kernel
theorem dL_law_1032 : decode cL_law 1032 = .ok (.iload 4, 2) := by decide +kernel
theorem dL_law_1034 : decode cL_law 1034 = .ok (.iconst 2, 1) := by decide +kernel
theorem dL_law_1035 : decode cL_law 1035 = .ok (.iadd, 1) := by decide +kernel
theorem dL_law_1036 : decode cL_law 1036 = .ok (.iaload, 1) := by decide +kernel
theorem dL_law_1037 : decode cL_law 1037 = .ok (.aload_n 0, 1) := by decide +kernel
theorem dL_law_1038 : decode cL_law 1038 = .ok (.iload 4, 2) := by decide +kernel
theorem dL_law_1040 : decode cL_law 1040 = .ok (.iconst 3, 1) := by decide +kernel
theorem dL_law_1041 : decode cL_law 1041 = .ok (.iadd, 1) := by decide +kernel
theorem dL_law_1042 : decode cL_law 1042 = .ok (.iaload, 1) := by decide +kernel
theorem dL_law_1043 : decode cL_law 1043 = .ok (.aload_n 3, 1) := by decide +kernel
theorem dL_law_1044 : decode cL_law 1044 = .ok (.invokestatic 141, 3) := by decide +kernel
theorem dL_law_1047 : decode cL_law 1047 = .ok (.istore 5, 2) := by decide +kernel
theorem dL_law_1049 : decode cL_law 1049 = .ok (.aload_n 2, 1) := by decide +kernel
theorem dL_law_1050 : decode cL_law 1050 = .ok (.aload_n 0, 1) := by decide +kernel
theorem dL_law_1051 : decode cL_law 1051 = .ok (.iload 4, 2) := by decide +kernel
theorem dL_law_1053 : decode cL_law 1053 = .ok (.iconst 1, 1) := by decide +kernel
theorem dL_law_1054 : decode cL_law 1054 = .ok (.iadd, 1) := by decide +kernel
theorem dL_law_1055 : decode cL_law 1055 = .ok (.iaload, 1) := by decide +kernel
theorem dL_law_1056 : decode cL_law 1056 = .ok (.aload_n 0, 1) := by decide +kernel
theorem dL_law_1057 : decode cL_law 1057 = .ok (.iload 4, 2) := by decide +kernel
theorem dL_law_1059 : decode cL_law 1059 = .ok (.iconst 2, 1) := by decide +kernel
theorem dL_law_1060 : decode cL_law 1060 = .ok (.iadd, 1) := by decide +kernel
theorem dL_law_1061 : decode cL_law 1061 = .ok (.iaload, 1) := by decide +kernel
theorem dL_law_1062 : decode cL_law 1062 = .ok (.aload_n 0, 1) := by decide +kernel
theorem dL_law_1063 : decode cL_law 1063 = .ok (.iload 4, 2) := by decide +kernel
theorem dL_law_1065 : decode cL_law 1065 = .ok (.iconst 3, 1) := by decide +kernel
theorem dL_law_1066 : decode cL_law 1066 = .ok (.iadd, 1) := by decide +kernel
theorem dL_law_1067 : decode cL_law 1067 = .ok (.iaload, 1) := by decide +kernel
theorem dL_law_1068 : decode cL_law 1068 = .ok (.invokevirtual 143, 3) := by decide +kernel
theorem dL_law_1071 : decode cL_law 1071 = .ok (.istore 6, 2) := by decide +kernel
theorem dL_law_1073 : decode cL_law 1073 = .ok (.aload_n 2, 1) := by decide +kernel
theorem dL_law_1074 : decode cL_law 1074 = .ok (.invokevirtual 102, 3) := by decide +kernel
theorem dL_law_1077 : decode cL_law 1077 = .ok (.iload 5, 2) := by decide +kernel
theorem dL_law_1079 : decode cL_law 1079 = .ok (.if_icmp .eq 5, 3) := by decide +kernel
theorem dL_law_1084 : decode cL_law 1084 = .ok (.iload 5, 2) := by decide +kernel
theorem dL_law_1086 : decode cL_law 1086 = .ok (.ifCond .ne 15, 3) := by decide +kernel
theorem dL_law_1101 : decode cL_law 1101 = .ok (.goto 776, 3) := by decide +kernel
theorem u_758 : Cond.methodLink RL 122 yL_address ∈ gU := gm (i := 758) (by decide +kernel) (by decide +kernel)
theorem u_759 : Cond.static yL_address ∈ gU := gm (i := 759) (by decide +kernel) (by decide +kernel)
theorem u_760 : Cond.codeWith yL_address cL_address 6 (some .int) [(0, 12, 15, 21), (0, 12, 19, 13)] ∈ gU := gm (i := 760) (by decide +kernel) (by decide +kernel)
theorem u_775 : Cond.methodLink RL 126 yL_gateway ∈ gU := gm (i := 775) (by decide +kernel) (by decide +kernel)
theorem u_776 : Cond.static yL_gateway ∈ gU := gm (i := 776) (by decide +kernel) (by decide +kernel)
theorem u_777 : Cond.codeWith yL_gateway cL_gateway 5 (some .int) [(0, 10, 13, 21), (0, 10, 17, 13)] ∈ gU := gm (i := 777) (by decide +kernel) (by decide +kernel)
theorem u_791 : Cond.methodLink RL 129 yL_route ∈ gU := gm (i := 791) (by decide +kernel) (by decide +kernel)
theorem u_792 : Cond.static yL_route ∈ gU := gm (i := 792) (by decide +kernel) (by decide +kernel)
theorem u_793 : Cond.codeWith yL_route cL_route 7 (some .int) [(0, 14, 17, 21), (0, 14, 21, 13), (0, 14, 25, 15)] ∈ gU := gm (i := 793) (by decide +kernel) (by decide +kernel)
theorem u_805 : Cond.methodLink RL 133 yL_rule ∈ gU := gm (i := 805) (by decide +kernel) (by decide +kernel)
theorem u_806 : Cond.static yL_rule ∈ gU := gm (i := 806) (by decide +kernel) (by decide +kernel)
theorem u_807 : Cond.codeWith yL_rule cL_rule 10 (some .int) [(0, 20, 23, 21), (0, 20, 27, 13), (0, 20, 31, 15)] ∈ gU := gm (i := 807) (by decide +kernel) (by decide +kernel)
theorem u_819 : Cond.methodLink RL 137 yL_watch ∈ gU := gm (i := 819) (by decide +kernel) (by decide +kernel)
theorem u_820 : Cond.static yL_watch ∈ gU := gm (i := 820) (by decide +kernel) (by decide +kernel)
theorem u_821 : Cond.codeWith yL_watch cL_watch 5 (some .int) [(0, 17, 20, 21), (0, 17, 24, 13)] ∈ gU := gm (i := 821) (by decide +kernel) (by decide +kernel)
theorem u_830 : Cond.methodLink RL 141 yL_pool ∈ gU := gm (i := 830) (by decide +kernel) (by decide +kernel)
theorem u_831 : Cond.static yL_pool ∈ gU := gm (i := 831) (by decide +kernel) (by decide +kernel)
theorem u_832 : Cond.codeWith yL_pool cL_pool 6 (some .int) [(0, 12, 15, 21), (0, 12, 19, 13)] ∈ gU := gm (i := 832) (by decide +kernel) (by decide +kernel)
theorem u_1483 : Cond.methodLink RL 125 yX12_address ∈ gU := gm (i := 1483) (by decide +kernel) (by decide +kernel)
theorem u_1484 : Cond.instanceMethod yX12_address ∈ gU := gm (i := 1484) (by decide +kernel) (by decide +kernel)
theorem u_1485 : Cond.selects RX12 yX12_address yX12_address ∈ gU := gm (i := 1485) (by decide +kernel) (by decide +kernel)
theorem u_1486 : Cond.code yX12_address cX12_address 6 (some .int) ∈ gU := gm (i := 1486) (by decide +kernel) (by decide +kernel)
theorem u_1490 : Cond.methodLink RL 128 yX12_gateway ∈ gU := gm (i := 1490) (by decide +kernel) (by decide +kernel)
theorem u_1491 : Cond.instanceMethod yX12_gateway ∈ gU := gm (i := 1491) (by decide +kernel) (by decide +kernel)
theorem u_1492 : Cond.selects RX12 yX12_gateway yX12_gateway ∈ gU := gm (i := 1492) (by decide +kernel) (by decide +kernel)
theorem u_1493 : Cond.code yX12_gateway cX12_gateway 4 (some .int) ∈ gU := gm (i := 1493) (by decide +kernel) (by decide +kernel)
theorem u_1498 : Cond.methodLink RL 132 yX12_route ∈ gU := gm (i := 1498) (by decide +kernel) (by decide +kernel)
theorem u_1499 : Cond.instanceMethod yX12_route ∈ gU := gm (i := 1499) (by decide +kernel) (by decide +kernel)
theorem u_1500 : Cond.selects RX12 yX12_route yX12_route ∈ gU := gm (i := 1500) (by decide +kernel) (by decide +kernel)
theorem u_1501 : Cond.code yX12_route cX12_route 7 (some .int) ∈ gU := gm (i := 1501) (by decide +kernel) (by decide +kernel)
theorem u_1502 : Cond.methodLink RL 136 yX12_rule ∈ gU := gm (i := 1502) (by decide +kernel) (by decide +kernel)
theorem u_1503 : Cond.instanceMethod yX12_rule ∈ gU := gm (i := 1503) (by decide +kernel) (by decide +kernel)
theorem u_1504 : Cond.selects RX12 yX12_rule yX12_rule ∈ gU := gm (i := 1504) (by decide +kernel) (by decide +kernel)
theorem u_1505 : Cond.code yX12_rule cX12_rule 10 (some .int) ∈ gU := gm (i := 1505) (by decide +kernel) (by decide +kernel)
theorem u_1506 : Cond.methodLink RL 140 yX12_watch ∈ gU := gm (i := 1506) (by decide +kernel) (by decide +kernel)
theorem u_1507 : Cond.instanceMethod yX12_watch ∈ gU := gm (i := 1507) (by decide +kernel) (by decide +kernel)
theorem u_1508 : Cond.selects RX12 yX12_watch yX12_watch ∈ gU := gm (i := 1508) (by decide +kernel) (by decide +kernel)
theorem u_1509 : Cond.code yX12_watch cX12_watch 4 (some .boolean) ∈ gU := gm (i := 1509) (by decide +kernel) (by decide +kernel)
theorem u_1510 : Cond.methodLink RL 143 yX12_pool ∈ gU := gm (i := 1510) (by decide +kernel) (by decide +kernel)
theorem u_1511 : Cond.instanceMethod yX12_pool ∈ gU := gm (i := 1511) (by decide +kernel) (by decide +kernel)
theorem u_1512 : Cond.selects RX12 yX12_pool yX12_pool ∈ gU := gm (i := 1512) (by decide +kernel) (by decide +kernel)
theorem u_1513 : Cond.code yX12_pool cX12_pool 8 (some .int) ∈ gU := gm (i := 1513) (by decide +kernel) (by decide +kernel)
set_option maxHeartbeats 8000000 in
set_option maxRecDepth 100000 in
theorem law_c6 {p : Program} {l : Launch} {e : Env} {s : State} {m : MethodId} {below : List Frame} {meth : Method} {c : Code} {dC : Nat → ClassId} {dI : Nat → Nat → Nat} {A : Nat → Prop} {b L : Nat} {xs : Nat → Int32} {h0 : Nat} {w : Nat} {kd : Nat} {cK : ClassId} {gW : Nat → Nat} {sg : Nat} {sn : Nat} {cS : ClassId} {gS : Nat → Nat} {ro : Nat} {cu : Nat} {c1 : Nat} {cC1 : ClassId} {gB1 : Nat → Nat} {sp : Nat} {c2 : Nat} {cC2 : ClassId} {gB2 : Nat → Nat} {gR : Nat → Nat} {tr : Nat} {gT : Nat → Nat} {gX : Nat → Nat} {m0 : Nat} {kdM : Nat} {ckM : ClassId} {fa : Nat} {cf : ClassId} {gw : Nat} {cg : ClassId} {gM : Nat → Nat} {ou : Nat} {cO : ClassId} (hfl : l.stackTraces = false) (hx : p.tables.exec = Jvm.exec) (hb : c.code = code) (hr : meth.sig.returnType = ret) (hml : c.maxLocals = 7) (hown : s.vm.findClass RL = some m.cls) (hts : ∀ w ∈ gU, w.before #[Value.ref b] s = true) (hX : va_X b L xs s s.heap) (hbl : b < s.heap.size) (hlocks : meth.locks = false) (hE : gEnv s) (hZ : gZ A s) (hA : ∀ q : Nat, s.heap.size ≤ q → A q) (hbA : ¬ A b) (hAo : ∀ q : Nat, A q → s.heap.size ≤ q) (hL8 : L = 8) : ∀ (H : Heap) (locs : List Loc), va_K (dC, dI) vwCl [(cK, .int), (cS, .long), (cC1, .int), (cC2, .int), (ckM, .int), (cf, .int), (cg, .int), (cO, .long)] s → va_P (dC, dI) vwCl [(h0, .inr (11, oX w sg ro tr gX)), (w, .inr (10, oW kd gW 0 0)), (kd, .inl (cK, 10, .inl (fun _ => 0))), (sg, .inr (7, oS w sn gS 0)), (sn, .inl (cS, 40, .inr (.inl (fun _ => 0)))), (ro, .inr (6, oR w sg cu sp gR 0 0)), (cu, .inr (8, oB c1 gB1)), (c1, .inl (cC1, 10, .inl (fun _ => 0))), (sp, .inr (8, oB c2 gB2)), (c2, .inl (cC2, 10, .inl (fun _ => 0))), (tr, .inr (9, oT w sg ro gT 0 0 0 0)), (m0, .inr (12, mM kdM gw fa gM 0 0 0 0 0 0 0 0 0)), (kdM, .inl (ckM, 10, .inl (fun _ => 0))), (fa, .inl (cf, 10, .inl (fun _ => 0))), (gw, .inl (cg, 10, .inl (fun _ => 0))), (ou, .inl (cO, 1, .inr (.inl (fun _ => 0))))] H → va_D A [(h0, .inr (11, oX w sg ro tr gX)), (w, .inr (10, oW kd gW 0 0)), (kd, .inl (cK, 10, .inl (fun _ => 0))), (sg, .inr (7, oS w sn gS 0)), (sn, .inl (cS, 40, .inr (.inl (fun _ => 0)))), (ro, .inr (6, oR w sg cu sp gR 0 0)), (cu, .inr (8, oB c1 gB1)), (c1, .inl (cC1, 10, .inl (fun _ => 0))), (sp, .inr (8, oB c2 gB2)), (c2, .inl (cC2, 10, .inl (fun _ => 0))), (tr, .inr (9, oT w sg ro gT 0 0 0 0)), (m0, .inr (12, mM kdM gw fa gM 0 0 0 0 0 0 0 0 0)), (kdM, .inl (ckM, 10, .inl (fun _ => 0))), (fa, .inl (cf, 10, .inl (fun _ => 0))), (gw, .inl (cg, 10, .inl (fun _ => 0))), (ou, .inl (cO, 1, .inr (.inl (fun _ => 0))))] → va_S A s.heap H locs → ∀ ls : Array Slot, lv_has ls 7 [(4, .int 0), (3, .ref ou), (2, .ref m0), (1, .ref h0), (0, .ref b)] → W p l e room_1 s m #[Value.ref b] below meth c H locs 441 44110 (lw_Z below #[Value.ref b] s) (F0 m 545 ls []) := by
  intro H locs hK hP hD hS ls hl
  refine lv_aload_n hx hb dL_law_545 rfl (lv_at hl 3 rfl) ?_
  refine lv_aload_n hx hb dL_law_546 rfl (lv_at hl 4 rfl) ?_
  refine lv_iload hx hb dL_law_547 (lv_at hl 0 rfl) ?_
  refine lv_iconst (v := 1) hx hb dL_law_549 (by decide) ?_
  refine lv_iadd hx hb dL_law_550 ?_
  refine lv_topi (fun z1103 ez1103 => ?_)
  obtain rfl : z1103 = 1 := ez1103.trans (by decide)
  refine va_sld hx hb hX hbl hbA hS (by rw [hL8]; unfold vp_in; decide) dL_law_551 ?_
  refine lv_aload_n hx hb dL_law_552 rfl (lv_at hl 4 rfl) ?_
  refine lv_iload hx hb dL_law_553 (lv_at hl 0 rfl) ?_
  refine lv_iconst (v := 2) hx hb dL_law_555 (by decide) ?_
  refine lv_iadd hx hb dL_law_556 ?_
  refine lv_topi (fun z1104 ez1104 => ?_)
  obtain rfl : z1104 = 2 := ez1104.trans (by decide)
  refine va_sld hx hb hX hbl hbA hS (by rw [hL8]; unfold vp_in; decide) dL_law_557 ?_
  refine lv_aload_n hx hb dL_law_558 rfl (lv_at hl 4 rfl) ?_
  refine lv_iload hx hb dL_law_559 (lv_at hl 0 rfl) ?_
  refine lv_iconst (v := 3) hx hb dL_law_561 (by decide) ?_
  refine lv_iadd hx hb dL_law_562 ?_
  refine lv_topi (fun z1105 ez1105 => ?_)
  obtain rfl : z1105 = 3 := ez1105.trans (by decide)
  refine va_sld hx hb hX hbl hbA hS (by rw [hL8]; unfold vp_in; decide) dL_law_563 ?_
  refine lv_aload_n hx hb dL_law_564 rfl (lv_at hl 1 rfl) ?_
  have hPc := hP.sub (ws' := [(h0, .inr (11, oX w sg ro tr gX)), (w, .inr (10, oW kd gW 0 0))]) [0, 1] rfl
  have hDc := hD.sub (ws' := [(h0, .inr (11, oX w sg ro tr gX)), (w, .inr (10, oW kd gW 0 0))]) [0, 1] (by decide) rfl
  have hKc := hK.sub (tys' := []) [] rfl
  have hFc := roF hS hA
  refine va_calli (vx_runSW (As := [.ref h0, .int (xs (1 : Int32).toNatClampNeg), .int (xs (2 : Int32).toNatClampNeg), .int (xs (3 : Int32).toNatClampNeg), .ref ou]) (rest := []) ⟨hx, hb, hml, hown, hts⟩ (c_L_address l dC dI H.size hfl h0 ou w sg ro tr gX kd gW (xs (1 : Int32).toNatClampNeg) (xs (2 : Int32).toNatClampNeg) (xs (3 : Int32).toNatClampNeg)) (vx_cwSW 5 hts (gSt u_758 u_759 u_0 u_760) rfl rfl rfl (by decide +kernel) ⟨Nat.le_of_ble_eq_true rfl, Nat.le_of_ble_eq_true rfl⟩) ⟨gPZ_blind, gPZ_call hPc hKc hDc hE hZ hS hFc⟩ rfl rfl hl.1 rfl (lv_room (Nat.le_of_ble_eq_true rfl)) dL_law_565 ⟨(Nat.le_of_ble_eq_true rfl), (Nat.le_of_ble_eq_true rfl)⟩) hS (fun q _ h => hFc q h) hFc (fun r1108 u1106 t9 H1107 locs ht hvm hw hB hz1 hk1 hS => ?_)
  have hP := roP hP hk1
  subst hw
  refine W.widen (k := 442) (n := 44116) (Nat.le_of_ble_eq_true rfl) (Nat.le_of_ble_eq_true rfl) ?_
  refine lv_istore (lv' := [(5, .int 1), (4, .int 0), (3, .ref ou), (2, .ref m0), (1, .ref h0), (0, .ref b)]) hx hb dL_law_568 hl (by decide) rfl (fun ls hl => ?_)
  refine lv_aload_n hx hb dL_law_570 rfl (lv_at hl 3 rfl) ?_
  refine lv_aload_n hx hb dL_law_571 rfl (lv_at hl 5 rfl) ?_
  refine lv_iload hx hb dL_law_572 (lv_at hl 1 rfl) ?_
  refine lv_iconst (v := 1) hx hb dL_law_574 (by decide) ?_
  refine lv_iadd hx hb dL_law_575 ?_
  refine lv_topi (fun z1109 ez1109 => ?_)
  obtain rfl : z1109 = 1 := ez1109.trans (by decide)
  refine va_sld hx hb hX hbl hbA hS (by rw [hL8]; unfold vp_in; decide) dL_law_576 ?_
  refine lv_aload_n hx hb dL_law_577 rfl (lv_at hl 5 rfl) ?_
  refine lv_iload hx hb dL_law_578 (lv_at hl 1 rfl) ?_
  refine lv_iconst (v := 2) hx hb dL_law_580 (by decide) ?_
  refine lv_iadd hx hb dL_law_581 ?_
  refine lv_topi (fun z1110 ez1110 => ?_)
  obtain rfl : z1110 = 2 := ez1110.trans (by decide)
  refine va_sld hx hb hX hbl hbA hS (by rw [hL8]; unfold vp_in; decide) dL_law_582 ?_
  refine lv_aload_n hx hb dL_law_583 rfl (lv_at hl 5 rfl) ?_
  refine lv_iload hx hb dL_law_584 (lv_at hl 1 rfl) ?_
  refine lv_iconst (v := 3) hx hb dL_law_586 (by decide) ?_
  refine lv_iadd hx hb dL_law_587 ?_
  refine lv_topi (fun z1111 ez1111 => ?_)
  obtain rfl : z1111 = 3 := ez1111.trans (by decide)
  refine va_sld hx hb hX hbl hbA hS (by rw [hL8]; unfold vp_in; decide) dL_law_588 ?_
  have hPc := hP.sub (ws' := [(m0, .inr (12, mM kdM gw fa gM 0 0 0 0 0 0 0 0 0))]) [11] rfl
  have hDc := hD.sub (ws' := [(m0, .inr (12, mM kdM gw fa gM 0 0 0 0 0 0 0 0 0))]) [11] (by decide) rfl
  have hKc := hK.sub (tys' := []) [] rfl
  have hFc := va_free (wc := [(m0, .inr (12, mM kdM gw fa gM 0 0 0 0 0 0 0 0 0))]) hD hS hA [11] rfl
  refine va_calli (va_runV (As := [.int (xs (1 : Int32).toNatClampNeg), .int (xs (2 : Int32).toNatClampNeg), .int (xs (3 : Int32).toNatClampNeg)]) (rest := []) ⟨hx, hb, hml, hown, hts⟩ (c_X12_address l dC dI H1107.size m0 kdM gw fa gM 0 (xs (1 : Int32).toNatClampNeg) (xs (2 : Int32).toNatClampNeg) (xs (3 : Int32).toNatClampNeg)) (cwV 3 hts (gV u_1483 u_1484 u_1485 u_14 u_1486) rfl rfl rfl (by decide +kernel) ⟨Nat.le_of_ble_eq_true rfl, Nat.le_of_ble_eq_true rfl⟩) ⟨gP_blind, va_recv hKc hPc (ci := 12) (q0 := 0) rfl rfl, gP_call hPc hKc hDc hE⟩ rfl rfl hl.1 rfl (lv_room (Nat.le_of_ble_eq_true rfl)) dL_law_589 ⟨(Nat.le_of_ble_eq_true rfl), (Nat.le_of_ble_eq_true rfl)⟩) hS (fun q _ h => hFc q h) hFc (fun r1114 u1112 t9 H1113 locs ht hvm hw hB hz1 hk1 hS => ?_)
  obtain ⟨hP1, hK1, hD1⟩ := hB
  rw [ht] at hP1
  have hK1 := va_K.moved hvm.symm hK1
  obtain ⟨hP, hD⟩ := va_join (wr := [(h0, .inr (11, oX w sg ro tr gX)), (w, .inr (10, oW kd gW 0 0)), (kd, .inl (cK, 10, .inl (fun _ => 0))), (sg, .inr (7, oS w sn gS 0)), (sn, .inl (cS, 40, .inr (.inl (fun _ => 0)))), (ro, .inr (6, oR w sg cu sp gR 0 0)), (cu, .inr (8, oB c1 gB1)), (c1, .inl (cC1, 10, .inl (fun _ => 0))), (sp, .inr (8, oB c2 gB2)), (c2, .inl (cC2, 10, .inl (fun _ => 0))), (tr, .inr (9, oT w sg ro gT 0 0 0 0)), (kdM, .inl (ckM, 10, .inl (fun _ => 0))), (fa, .inl (cf, 10, .inl (fun _ => 0))), (gw, .inl (cg, 10, .inl (fun _ => 0))), (ou, .inl (cO, 1, .inr (.inl (fun _ => 0))))]) (w1 := [(m0, .inr (12, mM kdM gw fa gM 0 0 0 0 0 0 0 0 1))]) hP hD [11] [0, 1, 2, 3, 4, 5, 6, 7, 8, 9, 10, 12, 13, 14, 15] rfl rfl (by decide) (by decide) hk1 hFc hP1 hD1
  have hK := (hK.sub (tys' := [(cK, .int), (cS, .long), (cC1, .int), (cC2, .int), (ckM, .int), (cf, .int), (cg, .int), (cO, .long)]) [0, 1, 2, 3, 4, 5, 6, 7] rfl).app hK1
  have hK : va_K (dC, dI) vwCl [(cK, .int), (cS, .long), (cC1, .int), (cC2, .int), (ckM, .int), (cf, .int), (cg, .int), (cO, .long)] s := hK
  have hP : va_P (dC, dI) vwCl [(h0, .inr (11, oX w sg ro tr gX)), (w, .inr (10, oW kd gW 0 0)), (kd, .inl (cK, 10, .inl (fun _ => 0))), (sg, .inr (7, oS w sn gS 0)), (sn, .inl (cS, 40, .inr (.inl (fun _ => 0)))), (ro, .inr (6, oR w sg cu sp gR 0 0)), (cu, .inr (8, oB c1 gB1)), (c1, .inl (cC1, 10, .inl (fun _ => 0))), (sp, .inr (8, oB c2 gB2)), (c2, .inl (cC2, 10, .inl (fun _ => 0))), (tr, .inr (9, oT w sg ro gT 0 0 0 0)), (kdM, .inl (ckM, 10, .inl (fun _ => 0))), (fa, .inl (cf, 10, .inl (fun _ => 0))), (gw, .inl (cg, 10, .inl (fun _ => 0))), (ou, .inl (cO, 1, .inr (.inl (fun _ => 0)))), (m0, .inr (12, mM kdM gw fa gM 0 0 0 0 0 0 0 0 1))] H1113 := hP
  have hD : va_D A [(h0, .inr (11, oX w sg ro tr gX)), (w, .inr (10, oW kd gW 0 0)), (kd, .inl (cK, 10, .inl (fun _ => 0))), (sg, .inr (7, oS w sn gS 0)), (sn, .inl (cS, 40, .inr (.inl (fun _ => 0)))), (ro, .inr (6, oR w sg cu sp gR 0 0)), (cu, .inr (8, oB c1 gB1)), (c1, .inl (cC1, 10, .inl (fun _ => 0))), (sp, .inr (8, oB c2 gB2)), (c2, .inl (cC2, 10, .inl (fun _ => 0))), (tr, .inr (9, oT w sg ro gT 0 0 0 0)), (kdM, .inl (ckM, 10, .inl (fun _ => 0))), (fa, .inl (cf, 10, .inl (fun _ => 0))), (gw, .inl (cg, 10, .inl (fun _ => 0))), (ou, .inl (cO, 1, .inr (.inl (fun _ => 0)))), (m0, .inr (12, mM kdM gw fa gM 0 0 0 0 0 0 0 0 1))] := hD
  subst hw
  refine lv_istore (lv' := [(6, .int 0), (5, .int 1), (4, .int 0), (3, .ref ou), (2, .ref m0), (1, .ref h0), (0, .ref b)]) hx hb dL_law_592 hl (by decide) rfl (fun ls hl => ?_)
  refine lv_aload_n hx hb dL_law_594 rfl (lv_at hl 4 rfl) ?_
  have hPc := hP.sub (ws' := [(m0, .inr (12, mM kdM gw fa gM 0 0 0 0 0 0 0 0 1))]) [15] rfl
  have hDc := hD.sub (ws' := [(m0, .inr (12, mM kdM gw fa gM 0 0 0 0 0 0 0 0 1))]) [15] (by decide) rfl
  have hKc := hK.sub (tys' := []) [] rfl
  have hFc := roF hS hA
  refine va_calli (va_runV (As := []) (rest := []) ⟨hx, hb, hml, hown, hts⟩ (cu_X12_thrown l dC dI H1113.size m0 kdM gw fa gM 1 0 0) (cwV 0 hts (gV u_1392 u_1393 u_1394 u_14 u_1395) rfl rfl rfl (by decide +kernel) ⟨Nat.le_of_ble_eq_true rfl, Nat.le_of_ble_eq_true rfl⟩) ⟨gP_blind, va_recv hKc hPc (ci := 12) (q0 := 0) rfl rfl, gP_call hPc hKc hDc hE⟩ rfl rfl hl.1 rfl (lv_room (Nat.le_of_ble_eq_true rfl)) dL_law_595 ⟨(Nat.le_of_ble_eq_true rfl), (Nat.le_of_ble_eq_true rfl)⟩) hS (fun q _ h => hFc q h) hFc (fun r1117 u1115 t9 H1116 locs ht hvm hw hB hz1 hk1 hS => ?_)
  have hP := roP hP hk1
  subst hw
  refine lv_iload hx hb dL_law_598 (lv_at hl 1 rfl) ?_
  refine lv_icmp_eq (tgt := 605) hx hb dL_law_600 (by decide) (fun _ => ?_) (fun h9 => absurd (by decide) h9)
  refine lv_iload hx hb dL_law_605 (lv_at hl 1 rfl) ?_
  refine lv_if_ne (tgt := 622) hx hb dL_law_607 (by decide) (fun _ => ?_) (fun h9 => absurd h9 (by decide))
  refine lv_goto (tgt := 1877) hx hb dL_law_622 (by decide) ?_
  refine W.widen (k := 600002) (n := 7302232) (Nat.le_of_ble_eq_true rfl) (Nat.le_of_ble_eq_true rfl) ?_
  exact law_tail hfl hx hb hr hml hown hts hX hbl hlocks hE hZ hA hbA hAo hL8 hS (lv_sub hl [6, 2] rfl)
set_option maxHeartbeats 8000000 in
set_option maxRecDepth 100000 in
theorem law_c7 {p : Program} {l : Launch} {e : Env} {s : State} {m : MethodId} {below : List Frame} {meth : Method} {c : Code} {dC : Nat → ClassId} {dI : Nat → Nat → Nat} {A : Nat → Prop} {b L : Nat} {xs : Nat → Int32} {h0 : Nat} {w : Nat} {kd : Nat} {cK : ClassId} {gW : Nat → Nat} {sg : Nat} {sn : Nat} {cS : ClassId} {gS : Nat → Nat} {ro : Nat} {cu : Nat} {c1 : Nat} {cC1 : ClassId} {gB1 : Nat → Nat} {sp : Nat} {c2 : Nat} {cC2 : ClassId} {gB2 : Nat → Nat} {gR : Nat → Nat} {tr : Nat} {gT : Nat → Nat} {gX : Nat → Nat} {m0 : Nat} {kdM : Nat} {ckM : ClassId} {fa : Nat} {cf : ClassId} {gw : Nat} {cg : ClassId} {gM : Nat → Nat} {ou : Nat} {cO : ClassId} (hfl : l.stackTraces = false) (hx : p.tables.exec = Jvm.exec) (hb : c.code = code) (hr : meth.sig.returnType = ret) (hml : c.maxLocals = 7) (hown : s.vm.findClass RL = some m.cls) (hts : ∀ w ∈ gU, w.before #[Value.ref b] s = true) (hX : va_X b L xs s s.heap) (hbl : b < s.heap.size) (hlocks : meth.locks = false) (hE : gEnv s) (hZ : gZ A s) (hA : ∀ q : Nat, s.heap.size ≤ q → A q) (hbA : ¬ A b) (hAo : ∀ q : Nat, A q → s.heap.size ≤ q) (hL8 : L = 8) : ∀ (H : Heap) (locs : List Loc), va_K (dC, dI) vwCl [(cK, .int), (cS, .long), (cC1, .int), (cC2, .int), (ckM, .int), (cf, .int), (cg, .int), (cO, .long)] s → va_P (dC, dI) vwCl [(h0, .inr (11, oX w sg ro tr gX)), (w, .inr (10, oW kd gW 0 0)), (kd, .inl (cK, 10, .inl (fun _ => 0))), (sg, .inr (7, oS w sn gS 0)), (sn, .inl (cS, 40, .inr (.inl (fun _ => 0)))), (ro, .inr (6, oR w sg cu sp gR 0 0)), (cu, .inr (8, oB c1 gB1)), (c1, .inl (cC1, 10, .inl (fun _ => 0))), (sp, .inr (8, oB c2 gB2)), (c2, .inl (cC2, 10, .inl (fun _ => 0))), (tr, .inr (9, oT w sg ro gT 0 0 0 0)), (m0, .inr (12, mM kdM gw fa gM 0 0 0 0 0 0 0 0 0)), (kdM, .inl (ckM, 10, .inl (fun _ => 0))), (fa, .inl (cf, 10, .inl (fun _ => 0))), (gw, .inl (cg, 10, .inl (fun _ => 0))), (ou, .inl (cO, 1, .inr (.inl (fun _ => 0))))] H → va_D A [(h0, .inr (11, oX w sg ro tr gX)), (w, .inr (10, oW kd gW 0 0)), (kd, .inl (cK, 10, .inl (fun _ => 0))), (sg, .inr (7, oS w sn gS 0)), (sn, .inl (cS, 40, .inr (.inl (fun _ => 0)))), (ro, .inr (6, oR w sg cu sp gR 0 0)), (cu, .inr (8, oB c1 gB1)), (c1, .inl (cC1, 10, .inl (fun _ => 0))), (sp, .inr (8, oB c2 gB2)), (c2, .inl (cC2, 10, .inl (fun _ => 0))), (tr, .inr (9, oT w sg ro gT 0 0 0 0)), (m0, .inr (12, mM kdM gw fa gM 0 0 0 0 0 0 0 0 0)), (kdM, .inl (ckM, 10, .inl (fun _ => 0))), (fa, .inl (cf, 10, .inl (fun _ => 0))), (gw, .inl (cg, 10, .inl (fun _ => 0))), (ou, .inl (cO, 1, .inr (.inl (fun _ => 0))))] → va_S A s.heap H locs → ∀ ls : Array Slot, lv_has ls 7 [(4, .int 0), (3, .ref ou), (2, .ref m0), (1, .ref h0), (0, .ref b)] → W p l e room_1 s m #[Value.ref b] below meth c H locs 441 44110 (lw_Z below #[Value.ref b] s) (F0 m 625 ls []) := by
  intro H locs hK hP hD hS ls hl
  refine lv_aload_n hx hb dL_law_625 rfl (lv_at hl 3 rfl) ?_
  refine lv_aload_n hx hb dL_law_626 rfl (lv_at hl 4 rfl) ?_
  refine lv_iload hx hb dL_law_627 (lv_at hl 0 rfl) ?_
  refine lv_iconst (v := 1) hx hb dL_law_629 (by decide) ?_
  refine lv_iadd hx hb dL_law_630 ?_
  refine lv_topi (fun z1118 ez1118 => ?_)
  obtain rfl : z1118 = 1 := ez1118.trans (by decide)
  refine va_sld hx hb hX hbl hbA hS (by rw [hL8]; unfold vp_in; decide) dL_law_631 ?_
  refine lv_aload_n hx hb dL_law_632 rfl (lv_at hl 4 rfl) ?_
  refine lv_iload hx hb dL_law_633 (lv_at hl 0 rfl) ?_
  refine lv_iconst (v := 2) hx hb dL_law_635 (by decide) ?_
  refine lv_iadd hx hb dL_law_636 ?_
  refine lv_topi (fun z1119 ez1119 => ?_)
  obtain rfl : z1119 = 2 := ez1119.trans (by decide)
  refine va_sld hx hb hX hbl hbA hS (by rw [hL8]; unfold vp_in; decide) dL_law_637 ?_
  refine lv_aload_n hx hb dL_law_638 rfl (lv_at hl 1 rfl) ?_
  have hPc := hP.sub (ws' := [(h0, .inr (11, oX w sg ro tr gX)), (w, .inr (10, oW kd gW 0 0))]) [0, 1] rfl
  have hDc := hD.sub (ws' := [(h0, .inr (11, oX w sg ro tr gX)), (w, .inr (10, oW kd gW 0 0))]) [0, 1] (by decide) rfl
  have hKc := hK.sub (tys' := []) [] rfl
  have hFc := roF hS hA
  refine va_calli (vx_runSW (As := [.ref h0, .int (xs (1 : Int32).toNatClampNeg), .int (xs (2 : Int32).toNatClampNeg), .ref ou]) (rest := []) ⟨hx, hb, hml, hown, hts⟩ (c_L_gateway l dC dI H.size hfl h0 ou w sg ro tr gX kd gW (xs (1 : Int32).toNatClampNeg) (xs (2 : Int32).toNatClampNeg)) (vx_cwSW 4 hts (gSt u_775 u_776 u_0 u_777) rfl rfl rfl (by decide +kernel) ⟨Nat.le_of_ble_eq_true rfl, Nat.le_of_ble_eq_true rfl⟩) ⟨gPZ_blind, gPZ_call hPc hKc hDc hE hZ hS hFc⟩ rfl rfl hl.1 rfl (lv_room (Nat.le_of_ble_eq_true rfl)) dL_law_639 ⟨(Nat.le_of_ble_eq_true rfl), (Nat.le_of_ble_eq_true rfl)⟩) hS (fun q _ h => hFc q h) hFc (fun r1122 u1120 t9 H1121 locs ht hvm hw hB hz1 hk1 hS => ?_)
  have hP := roP hP hk1
  subst hw
  refine W.widen (k := 442) (n := 44116) (Nat.le_of_ble_eq_true rfl) (Nat.le_of_ble_eq_true rfl) ?_
  refine lv_istore (lv' := [(5, .int 1), (4, .int 0), (3, .ref ou), (2, .ref m0), (1, .ref h0), (0, .ref b)]) hx hb dL_law_642 hl (by decide) rfl (fun ls hl => ?_)
  refine lv_aload_n hx hb dL_law_644 rfl (lv_at hl 3 rfl) ?_
  refine lv_aload_n hx hb dL_law_645 rfl (lv_at hl 5 rfl) ?_
  refine lv_iload hx hb dL_law_646 (lv_at hl 1 rfl) ?_
  refine lv_iconst (v := 1) hx hb dL_law_648 (by decide) ?_
  refine lv_iadd hx hb dL_law_649 ?_
  refine lv_topi (fun z1123 ez1123 => ?_)
  obtain rfl : z1123 = 1 := ez1123.trans (by decide)
  refine va_sld hx hb hX hbl hbA hS (by rw [hL8]; unfold vp_in; decide) dL_law_650 ?_
  refine lv_aload_n hx hb dL_law_651 rfl (lv_at hl 5 rfl) ?_
  refine lv_iload hx hb dL_law_652 (lv_at hl 1 rfl) ?_
  refine lv_iconst (v := 2) hx hb dL_law_654 (by decide) ?_
  refine lv_iadd hx hb dL_law_655 ?_
  refine lv_topi (fun z1124 ez1124 => ?_)
  obtain rfl : z1124 = 2 := ez1124.trans (by decide)
  refine va_sld hx hb hX hbl hbA hS (by rw [hL8]; unfold vp_in; decide) dL_law_656 ?_
  have hPc := hP.sub (ws' := [(m0, .inr (12, mM kdM gw fa gM 0 0 0 0 0 0 0 0 0))]) [11] rfl
  have hDc := hD.sub (ws' := [(m0, .inr (12, mM kdM gw fa gM 0 0 0 0 0 0 0 0 0))]) [11] (by decide) rfl
  have hKc := hK.sub (tys' := []) [] rfl
  have hFc := va_free (wc := [(m0, .inr (12, mM kdM gw fa gM 0 0 0 0 0 0 0 0 0))]) hD hS hA [11] rfl
  refine va_calli (va_runV (As := [.int (xs (1 : Int32).toNatClampNeg), .int (xs (2 : Int32).toNatClampNeg)]) (rest := []) ⟨hx, hb, hml, hown, hts⟩ (c_X12_gateway l dC dI H1121.size m0 kdM gw fa gM 0 (xs (1 : Int32).toNatClampNeg) (xs (2 : Int32).toNatClampNeg)) (cwV 2 hts (gV u_1490 u_1491 u_1492 u_14 u_1493) rfl rfl rfl (by decide +kernel) ⟨Nat.le_of_ble_eq_true rfl, Nat.le_of_ble_eq_true rfl⟩) ⟨gP_blind, va_recv hKc hPc (ci := 12) (q0 := 0) rfl rfl, gP_call hPc hKc hDc hE⟩ rfl rfl hl.1 rfl (lv_room (Nat.le_of_ble_eq_true rfl)) dL_law_657 ⟨(Nat.le_of_ble_eq_true rfl), (Nat.le_of_ble_eq_true rfl)⟩) hS (fun q _ h => hFc q h) hFc (fun r1127 u1125 t9 H1126 locs ht hvm hw hB hz1 hk1 hS => ?_)
  obtain ⟨hP1, hK1, hD1⟩ := hB
  rw [ht] at hP1
  have hK1 := va_K.moved hvm.symm hK1
  obtain ⟨hP, hD⟩ := va_join (wr := [(h0, .inr (11, oX w sg ro tr gX)), (w, .inr (10, oW kd gW 0 0)), (kd, .inl (cK, 10, .inl (fun _ => 0))), (sg, .inr (7, oS w sn gS 0)), (sn, .inl (cS, 40, .inr (.inl (fun _ => 0)))), (ro, .inr (6, oR w sg cu sp gR 0 0)), (cu, .inr (8, oB c1 gB1)), (c1, .inl (cC1, 10, .inl (fun _ => 0))), (sp, .inr (8, oB c2 gB2)), (c2, .inl (cC2, 10, .inl (fun _ => 0))), (tr, .inr (9, oT w sg ro gT 0 0 0 0)), (kdM, .inl (ckM, 10, .inl (fun _ => 0))), (fa, .inl (cf, 10, .inl (fun _ => 0))), (gw, .inl (cg, 10, .inl (fun _ => 0))), (ou, .inl (cO, 1, .inr (.inl (fun _ => 0))))]) (w1 := [(m0, .inr (12, mM kdM gw fa gM 0 0 0 0 0 0 0 0 1))]) hP hD [11] [0, 1, 2, 3, 4, 5, 6, 7, 8, 9, 10, 12, 13, 14, 15] rfl rfl (by decide) (by decide) hk1 hFc hP1 hD1
  have hK := (hK.sub (tys' := [(cK, .int), (cS, .long), (cC1, .int), (cC2, .int), (ckM, .int), (cf, .int), (cg, .int), (cO, .long)]) [0, 1, 2, 3, 4, 5, 6, 7] rfl).app hK1
  have hK : va_K (dC, dI) vwCl [(cK, .int), (cS, .long), (cC1, .int), (cC2, .int), (ckM, .int), (cf, .int), (cg, .int), (cO, .long)] s := hK
  have hP : va_P (dC, dI) vwCl [(h0, .inr (11, oX w sg ro tr gX)), (w, .inr (10, oW kd gW 0 0)), (kd, .inl (cK, 10, .inl (fun _ => 0))), (sg, .inr (7, oS w sn gS 0)), (sn, .inl (cS, 40, .inr (.inl (fun _ => 0)))), (ro, .inr (6, oR w sg cu sp gR 0 0)), (cu, .inr (8, oB c1 gB1)), (c1, .inl (cC1, 10, .inl (fun _ => 0))), (sp, .inr (8, oB c2 gB2)), (c2, .inl (cC2, 10, .inl (fun _ => 0))), (tr, .inr (9, oT w sg ro gT 0 0 0 0)), (kdM, .inl (ckM, 10, .inl (fun _ => 0))), (fa, .inl (cf, 10, .inl (fun _ => 0))), (gw, .inl (cg, 10, .inl (fun _ => 0))), (ou, .inl (cO, 1, .inr (.inl (fun _ => 0)))), (m0, .inr (12, mM kdM gw fa gM 0 0 0 0 0 0 0 0 1))] H1126 := hP
  have hD : va_D A [(h0, .inr (11, oX w sg ro tr gX)), (w, .inr (10, oW kd gW 0 0)), (kd, .inl (cK, 10, .inl (fun _ => 0))), (sg, .inr (7, oS w sn gS 0)), (sn, .inl (cS, 40, .inr (.inl (fun _ => 0)))), (ro, .inr (6, oR w sg cu sp gR 0 0)), (cu, .inr (8, oB c1 gB1)), (c1, .inl (cC1, 10, .inl (fun _ => 0))), (sp, .inr (8, oB c2 gB2)), (c2, .inl (cC2, 10, .inl (fun _ => 0))), (tr, .inr (9, oT w sg ro gT 0 0 0 0)), (kdM, .inl (ckM, 10, .inl (fun _ => 0))), (fa, .inl (cf, 10, .inl (fun _ => 0))), (gw, .inl (cg, 10, .inl (fun _ => 0))), (ou, .inl (cO, 1, .inr (.inl (fun _ => 0)))), (m0, .inr (12, mM kdM gw fa gM 0 0 0 0 0 0 0 0 1))] := hD
  subst hw
  refine lv_istore (lv' := [(6, .int 0), (5, .int 1), (4, .int 0), (3, .ref ou), (2, .ref m0), (1, .ref h0), (0, .ref b)]) hx hb dL_law_660 hl (by decide) rfl (fun ls hl => ?_)
  refine lv_aload_n hx hb dL_law_662 rfl (lv_at hl 4 rfl) ?_
  have hPc := hP.sub (ws' := [(m0, .inr (12, mM kdM gw fa gM 0 0 0 0 0 0 0 0 1))]) [15] rfl
  have hDc := hD.sub (ws' := [(m0, .inr (12, mM kdM gw fa gM 0 0 0 0 0 0 0 0 1))]) [15] (by decide) rfl
  have hKc := hK.sub (tys' := []) [] rfl
  have hFc := roF hS hA
  refine va_calli (va_runV (As := []) (rest := []) ⟨hx, hb, hml, hown, hts⟩ (cu_X12_thrown l dC dI H1126.size m0 kdM gw fa gM 1 0 0) (cwV 0 hts (gV u_1392 u_1393 u_1394 u_14 u_1395) rfl rfl rfl (by decide +kernel) ⟨Nat.le_of_ble_eq_true rfl, Nat.le_of_ble_eq_true rfl⟩) ⟨gP_blind, va_recv hKc hPc (ci := 12) (q0 := 0) rfl rfl, gP_call hPc hKc hDc hE⟩ rfl rfl hl.1 rfl (lv_room (Nat.le_of_ble_eq_true rfl)) dL_law_663 ⟨(Nat.le_of_ble_eq_true rfl), (Nat.le_of_ble_eq_true rfl)⟩) hS (fun q _ h => hFc q h) hFc (fun r1130 u1128 t9 H1129 locs ht hvm hw hB hz1 hk1 hS => ?_)
  have hP := roP hP hk1
  subst hw
  refine lv_iload hx hb dL_law_666 (lv_at hl 1 rfl) ?_
  refine lv_icmp_eq (tgt := 673) hx hb dL_law_668 (by decide) (fun _ => ?_) (fun h9 => absurd (by decide) h9)
  refine lv_iload hx hb dL_law_673 (lv_at hl 1 rfl) ?_
  refine lv_if_ne (tgt := 690) hx hb dL_law_675 (by decide) (fun _ => ?_) (fun h9 => absurd h9 (by decide))
  refine lv_goto (tgt := 1877) hx hb dL_law_690 (by decide) ?_
  refine W.widen (k := 600002) (n := 7302232) (Nat.le_of_ble_eq_true rfl) (Nat.le_of_ble_eq_true rfl) ?_
  exact law_tail hfl hx hb hr hml hown hts hX hbl hlocks hE hZ hA hbA hAo hL8 hS (lv_sub hl [6, 2] rfl)
set_option maxHeartbeats 8000000 in
set_option maxRecDepth 100000 in
theorem law_c8 {p : Program} {l : Launch} {e : Env} {s : State} {m : MethodId} {below : List Frame} {meth : Method} {c : Code} {dC : Nat → ClassId} {dI : Nat → Nat → Nat} {A : Nat → Prop} {b L : Nat} {xs : Nat → Int32} {h0 : Nat} {w : Nat} {kd : Nat} {cK : ClassId} {gW : Nat → Nat} {sg : Nat} {sn : Nat} {cS : ClassId} {gS : Nat → Nat} {ro : Nat} {cu : Nat} {c1 : Nat} {cC1 : ClassId} {gB1 : Nat → Nat} {sp : Nat} {c2 : Nat} {cC2 : ClassId} {gB2 : Nat → Nat} {gR : Nat → Nat} {tr : Nat} {gT : Nat → Nat} {gX : Nat → Nat} {m0 : Nat} {kdM : Nat} {ckM : ClassId} {fa : Nat} {cf : ClassId} {gw : Nat} {cg : ClassId} {gM : Nat → Nat} {ou : Nat} {cO : ClassId} (hfl : l.stackTraces = false) (hx : p.tables.exec = Jvm.exec) (hb : c.code = code) (hr : meth.sig.returnType = ret) (hml : c.maxLocals = 7) (hown : s.vm.findClass RL = some m.cls) (hts : ∀ w ∈ gU, w.before #[Value.ref b] s = true) (hX : va_X b L xs s s.heap) (hbl : b < s.heap.size) (hlocks : meth.locks = false) (hE : gEnv s) (hZ : gZ A s) (hA : ∀ q : Nat, s.heap.size ≤ q → A q) (hbA : ¬ A b) (hAo : ∀ q : Nat, A q → s.heap.size ≤ q) (hL8 : L = 8) : ∀ (H : Heap) (locs : List Loc), va_K (dC, dI) vwCl [(cK, .int), (cS, .long), (cC1, .int), (cC2, .int), (ckM, .int), (cf, .int), (cg, .int), (cO, .long)] s → va_P (dC, dI) vwCl [(h0, .inr (11, oX w sg ro tr gX)), (w, .inr (10, oW kd gW 0 0)), (kd, .inl (cK, 10, .inl (fun _ => 0))), (sg, .inr (7, oS w sn gS 0)), (sn, .inl (cS, 40, .inr (.inl (fun _ => 0)))), (ro, .inr (6, oR w sg cu sp gR 0 0)), (cu, .inr (8, oB c1 gB1)), (c1, .inl (cC1, 10, .inl (fun _ => 0))), (sp, .inr (8, oB c2 gB2)), (c2, .inl (cC2, 10, .inl (fun _ => 0))), (tr, .inr (9, oT w sg ro gT 0 0 0 0)), (m0, .inr (12, mM kdM gw fa gM 0 0 0 0 0 0 0 0 0)), (kdM, .inl (ckM, 10, .inl (fun _ => 0))), (fa, .inl (cf, 10, .inl (fun _ => 0))), (gw, .inl (cg, 10, .inl (fun _ => 0))), (ou, .inl (cO, 1, .inr (.inl (fun _ => 0))))] H → va_D A [(h0, .inr (11, oX w sg ro tr gX)), (w, .inr (10, oW kd gW 0 0)), (kd, .inl (cK, 10, .inl (fun _ => 0))), (sg, .inr (7, oS w sn gS 0)), (sn, .inl (cS, 40, .inr (.inl (fun _ => 0)))), (ro, .inr (6, oR w sg cu sp gR 0 0)), (cu, .inr (8, oB c1 gB1)), (c1, .inl (cC1, 10, .inl (fun _ => 0))), (sp, .inr (8, oB c2 gB2)), (c2, .inl (cC2, 10, .inl (fun _ => 0))), (tr, .inr (9, oT w sg ro gT 0 0 0 0)), (m0, .inr (12, mM kdM gw fa gM 0 0 0 0 0 0 0 0 0)), (kdM, .inl (ckM, 10, .inl (fun _ => 0))), (fa, .inl (cf, 10, .inl (fun _ => 0))), (gw, .inl (cg, 10, .inl (fun _ => 0))), (ou, .inl (cO, 1, .inr (.inl (fun _ => 0))))] → va_S A s.heap H locs → ∀ ls : Array Slot, lv_has ls 7 [(4, .int 0), (3, .ref ou), (2, .ref m0), (1, .ref h0), (0, .ref b)] → W p l e room_1 s m #[Value.ref b] below meth c H locs 441 44110 (lw_Z below #[Value.ref b] s) (F0 m 693 ls []) := by
  intro H locs hK hP hD hS ls hl
  refine lv_aload_n hx hb dL_law_693 rfl (lv_at hl 3 rfl) ?_
  refine lv_aload_n hx hb dL_law_694 rfl (lv_at hl 4 rfl) ?_
  refine lv_iload hx hb dL_law_695 (lv_at hl 0 rfl) ?_
  refine lv_iconst (v := 1) hx hb dL_law_697 (by decide) ?_
  refine lv_iadd hx hb dL_law_698 ?_
  refine lv_topi (fun z1131 ez1131 => ?_)
  obtain rfl : z1131 = 1 := ez1131.trans (by decide)
  refine va_sld hx hb hX hbl hbA hS (by rw [hL8]; unfold vp_in; decide) dL_law_699 ?_
  refine lv_aload_n hx hb dL_law_700 rfl (lv_at hl 4 rfl) ?_
  refine lv_iload hx hb dL_law_701 (lv_at hl 0 rfl) ?_
  refine lv_iconst (v := 2) hx hb dL_law_703 (by decide) ?_
  refine lv_iadd hx hb dL_law_704 ?_
  refine lv_topi (fun z1132 ez1132 => ?_)
  obtain rfl : z1132 = 2 := ez1132.trans (by decide)
  refine va_sld hx hb hX hbl hbA hS (by rw [hL8]; unfold vp_in; decide) dL_law_705 ?_
  refine lv_aload_n hx hb dL_law_706 rfl (lv_at hl 4 rfl) ?_
  refine lv_iload hx hb dL_law_707 (lv_at hl 0 rfl) ?_
  refine lv_iconst (v := 3) hx hb dL_law_709 (by decide) ?_
  refine lv_iadd hx hb dL_law_710 ?_
  refine lv_topi (fun z1133 ez1133 => ?_)
  obtain rfl : z1133 = 3 := ez1133.trans (by decide)
  refine va_sld hx hb hX hbl hbA hS (by rw [hL8]; unfold vp_in; decide) dL_law_711 ?_
  refine lv_aload_n hx hb dL_law_712 rfl (lv_at hl 4 rfl) ?_
  refine lv_iload hx hb dL_law_713 (lv_at hl 0 rfl) ?_
  refine lv_iconst (v := 4) hx hb dL_law_715 (by decide) ?_
  refine lv_iadd hx hb dL_law_716 ?_
  refine lv_topi (fun z1134 ez1134 => ?_)
  obtain rfl : z1134 = 4 := ez1134.trans (by decide)
  refine va_sld hx hb hX hbl hbA hS (by rw [hL8]; unfold vp_in; decide) dL_law_717 ?_
  refine lv_aload_n hx hb dL_law_718 rfl (lv_at hl 1 rfl) ?_
  have hPc := hP.sub (ws' := [(h0, .inr (11, oX w sg ro tr gX)), (w, .inr (10, oW kd gW 0 0))]) [0, 1] rfl
  have hDc := hD.sub (ws' := [(h0, .inr (11, oX w sg ro tr gX)), (w, .inr (10, oW kd gW 0 0))]) [0, 1] (by decide) rfl
  have hKc := hK.sub (tys' := []) [] rfl
  have hFc := roF hS hA
  refine va_calli (vx_runSW (As := [.ref h0, .int (xs (1 : Int32).toNatClampNeg), .int (xs (2 : Int32).toNatClampNeg), .int (xs (3 : Int32).toNatClampNeg), .int (xs (4 : Int32).toNatClampNeg), .ref ou]) (rest := []) ⟨hx, hb, hml, hown, hts⟩ (c_L_route l dC dI H.size hfl h0 ou w sg ro tr gX kd gW (xs (1 : Int32).toNatClampNeg) (xs (2 : Int32).toNatClampNeg) (xs (3 : Int32).toNatClampNeg) (xs (4 : Int32).toNatClampNeg)) (vx_cwSW 6 hts (gSt u_791 u_792 u_0 u_793) rfl rfl rfl (by decide +kernel) ⟨Nat.le_of_ble_eq_true rfl, Nat.le_of_ble_eq_true rfl⟩) ⟨gPZ_blind, gPZ_call hPc hKc hDc hE hZ hS hFc⟩ rfl rfl hl.1 rfl (lv_room (Nat.le_of_ble_eq_true rfl)) dL_law_719 ⟨(Nat.le_of_ble_eq_true rfl), (Nat.le_of_ble_eq_true rfl)⟩) hS (fun q _ h => hFc q h) hFc (fun r1137 u1135 t9 H1136 locs ht hvm hw hB hz1 hk1 hS => ?_)
  have hP := roP hP hk1
  subst hw
  refine W.widen (k := 442) (n := 44116) (Nat.le_of_ble_eq_true rfl) (Nat.le_of_ble_eq_true rfl) ?_
  refine lv_istore (lv' := [(5, .int 1), (4, .int 0), (3, .ref ou), (2, .ref m0), (1, .ref h0), (0, .ref b)]) hx hb dL_law_722 hl (by decide) rfl (fun ls hl => ?_)
  refine lv_aload_n hx hb dL_law_724 rfl (lv_at hl 3 rfl) ?_
  refine lv_aload_n hx hb dL_law_725 rfl (lv_at hl 5 rfl) ?_
  refine lv_iload hx hb dL_law_726 (lv_at hl 1 rfl) ?_
  refine lv_iconst (v := 1) hx hb dL_law_728 (by decide) ?_
  refine lv_iadd hx hb dL_law_729 ?_
  refine lv_topi (fun z1138 ez1138 => ?_)
  obtain rfl : z1138 = 1 := ez1138.trans (by decide)
  refine va_sld hx hb hX hbl hbA hS (by rw [hL8]; unfold vp_in; decide) dL_law_730 ?_
  refine lv_aload_n hx hb dL_law_731 rfl (lv_at hl 5 rfl) ?_
  refine lv_iload hx hb dL_law_732 (lv_at hl 1 rfl) ?_
  refine lv_iconst (v := 2) hx hb dL_law_734 (by decide) ?_
  refine lv_iadd hx hb dL_law_735 ?_
  refine lv_topi (fun z1139 ez1139 => ?_)
  obtain rfl : z1139 = 2 := ez1139.trans (by decide)
  refine va_sld hx hb hX hbl hbA hS (by rw [hL8]; unfold vp_in; decide) dL_law_736 ?_
  refine lv_aload_n hx hb dL_law_737 rfl (lv_at hl 5 rfl) ?_
  refine lv_iload hx hb dL_law_738 (lv_at hl 1 rfl) ?_
  refine lv_iconst (v := 3) hx hb dL_law_740 (by decide) ?_
  refine lv_iadd hx hb dL_law_741 ?_
  refine lv_topi (fun z1140 ez1140 => ?_)
  obtain rfl : z1140 = 3 := ez1140.trans (by decide)
  refine va_sld hx hb hX hbl hbA hS (by rw [hL8]; unfold vp_in; decide) dL_law_742 ?_
  refine lv_aload_n hx hb dL_law_743 rfl (lv_at hl 5 rfl) ?_
  refine lv_iload hx hb dL_law_744 (lv_at hl 1 rfl) ?_
  refine lv_iconst (v := 4) hx hb dL_law_746 (by decide) ?_
  refine lv_iadd hx hb dL_law_747 ?_
  refine lv_topi (fun z1141 ez1141 => ?_)
  obtain rfl : z1141 = 4 := ez1141.trans (by decide)
  refine va_sld hx hb hX hbl hbA hS (by rw [hL8]; unfold vp_in; decide) dL_law_748 ?_
  have hPc := hP.sub (ws' := [(m0, .inr (12, mM kdM gw fa gM 0 0 0 0 0 0 0 0 0))]) [11] rfl
  have hDc := hD.sub (ws' := [(m0, .inr (12, mM kdM gw fa gM 0 0 0 0 0 0 0 0 0))]) [11] (by decide) rfl
  have hKc := hK.sub (tys' := []) [] rfl
  have hFc := va_free (wc := [(m0, .inr (12, mM kdM gw fa gM 0 0 0 0 0 0 0 0 0))]) hD hS hA [11] rfl
  refine va_calli (va_runV (As := [.int (xs (1 : Int32).toNatClampNeg), .int (xs (2 : Int32).toNatClampNeg), .int (xs (3 : Int32).toNatClampNeg), .int (xs (4 : Int32).toNatClampNeg)]) (rest := []) ⟨hx, hb, hml, hown, hts⟩ (c_X12_route l dC dI H1136.size m0 kdM gw fa gM 0 (xs (1 : Int32).toNatClampNeg) (xs (2 : Int32).toNatClampNeg) (xs (3 : Int32).toNatClampNeg) (xs (4 : Int32).toNatClampNeg)) (cwV 4 hts (gV u_1498 u_1499 u_1500 u_14 u_1501) rfl rfl rfl (by decide +kernel) ⟨Nat.le_of_ble_eq_true rfl, Nat.le_of_ble_eq_true rfl⟩) ⟨gP_blind, va_recv hKc hPc (ci := 12) (q0 := 0) rfl rfl, gP_call hPc hKc hDc hE⟩ rfl rfl hl.1 rfl (lv_room (Nat.le_of_ble_eq_true rfl)) dL_law_749 ⟨(Nat.le_of_ble_eq_true rfl), (Nat.le_of_ble_eq_true rfl)⟩) hS (fun q _ h => hFc q h) hFc (fun r1144 u1142 t9 H1143 locs ht hvm hw hB hz1 hk1 hS => ?_)
  obtain ⟨hP1, hK1, hD1⟩ := hB
  rw [ht] at hP1
  have hK1 := va_K.moved hvm.symm hK1
  obtain ⟨hP, hD⟩ := va_join (wr := [(h0, .inr (11, oX w sg ro tr gX)), (w, .inr (10, oW kd gW 0 0)), (kd, .inl (cK, 10, .inl (fun _ => 0))), (sg, .inr (7, oS w sn gS 0)), (sn, .inl (cS, 40, .inr (.inl (fun _ => 0)))), (ro, .inr (6, oR w sg cu sp gR 0 0)), (cu, .inr (8, oB c1 gB1)), (c1, .inl (cC1, 10, .inl (fun _ => 0))), (sp, .inr (8, oB c2 gB2)), (c2, .inl (cC2, 10, .inl (fun _ => 0))), (tr, .inr (9, oT w sg ro gT 0 0 0 0)), (kdM, .inl (ckM, 10, .inl (fun _ => 0))), (fa, .inl (cf, 10, .inl (fun _ => 0))), (gw, .inl (cg, 10, .inl (fun _ => 0))), (ou, .inl (cO, 1, .inr (.inl (fun _ => 0))))]) (w1 := [(m0, .inr (12, mM kdM gw fa gM 0 0 0 0 0 0 0 0 1))]) hP hD [11] [0, 1, 2, 3, 4, 5, 6, 7, 8, 9, 10, 12, 13, 14, 15] rfl rfl (by decide) (by decide) hk1 hFc hP1 hD1
  have hK := (hK.sub (tys' := [(cK, .int), (cS, .long), (cC1, .int), (cC2, .int), (ckM, .int), (cf, .int), (cg, .int), (cO, .long)]) [0, 1, 2, 3, 4, 5, 6, 7] rfl).app hK1
  have hK : va_K (dC, dI) vwCl [(cK, .int), (cS, .long), (cC1, .int), (cC2, .int), (ckM, .int), (cf, .int), (cg, .int), (cO, .long)] s := hK
  have hP : va_P (dC, dI) vwCl [(h0, .inr (11, oX w sg ro tr gX)), (w, .inr (10, oW kd gW 0 0)), (kd, .inl (cK, 10, .inl (fun _ => 0))), (sg, .inr (7, oS w sn gS 0)), (sn, .inl (cS, 40, .inr (.inl (fun _ => 0)))), (ro, .inr (6, oR w sg cu sp gR 0 0)), (cu, .inr (8, oB c1 gB1)), (c1, .inl (cC1, 10, .inl (fun _ => 0))), (sp, .inr (8, oB c2 gB2)), (c2, .inl (cC2, 10, .inl (fun _ => 0))), (tr, .inr (9, oT w sg ro gT 0 0 0 0)), (kdM, .inl (ckM, 10, .inl (fun _ => 0))), (fa, .inl (cf, 10, .inl (fun _ => 0))), (gw, .inl (cg, 10, .inl (fun _ => 0))), (ou, .inl (cO, 1, .inr (.inl (fun _ => 0)))), (m0, .inr (12, mM kdM gw fa gM 0 0 0 0 0 0 0 0 1))] H1143 := hP
  have hD : va_D A [(h0, .inr (11, oX w sg ro tr gX)), (w, .inr (10, oW kd gW 0 0)), (kd, .inl (cK, 10, .inl (fun _ => 0))), (sg, .inr (7, oS w sn gS 0)), (sn, .inl (cS, 40, .inr (.inl (fun _ => 0)))), (ro, .inr (6, oR w sg cu sp gR 0 0)), (cu, .inr (8, oB c1 gB1)), (c1, .inl (cC1, 10, .inl (fun _ => 0))), (sp, .inr (8, oB c2 gB2)), (c2, .inl (cC2, 10, .inl (fun _ => 0))), (tr, .inr (9, oT w sg ro gT 0 0 0 0)), (kdM, .inl (ckM, 10, .inl (fun _ => 0))), (fa, .inl (cf, 10, .inl (fun _ => 0))), (gw, .inl (cg, 10, .inl (fun _ => 0))), (ou, .inl (cO, 1, .inr (.inl (fun _ => 0)))), (m0, .inr (12, mM kdM gw fa gM 0 0 0 0 0 0 0 0 1))] := hD
  subst hw
  refine lv_istore (lv' := [(6, .int 0), (5, .int 1), (4, .int 0), (3, .ref ou), (2, .ref m0), (1, .ref h0), (0, .ref b)]) hx hb dL_law_752 hl (by decide) rfl (fun ls hl => ?_)
  refine lv_aload_n hx hb dL_law_754 rfl (lv_at hl 4 rfl) ?_
  have hPc := hP.sub (ws' := [(m0, .inr (12, mM kdM gw fa gM 0 0 0 0 0 0 0 0 1))]) [15] rfl
  have hDc := hD.sub (ws' := [(m0, .inr (12, mM kdM gw fa gM 0 0 0 0 0 0 0 0 1))]) [15] (by decide) rfl
  have hKc := hK.sub (tys' := []) [] rfl
  have hFc := roF hS hA
  refine va_calli (va_runV (As := []) (rest := []) ⟨hx, hb, hml, hown, hts⟩ (cu_X12_thrown l dC dI H1143.size m0 kdM gw fa gM 1 0 0) (cwV 0 hts (gV u_1392 u_1393 u_1394 u_14 u_1395) rfl rfl rfl (by decide +kernel) ⟨Nat.le_of_ble_eq_true rfl, Nat.le_of_ble_eq_true rfl⟩) ⟨gP_blind, va_recv hKc hPc (ci := 12) (q0 := 0) rfl rfl, gP_call hPc hKc hDc hE⟩ rfl rfl hl.1 rfl (lv_room (Nat.le_of_ble_eq_true rfl)) dL_law_755 ⟨(Nat.le_of_ble_eq_true rfl), (Nat.le_of_ble_eq_true rfl)⟩) hS (fun q _ h => hFc q h) hFc (fun r1147 u1145 t9 H1146 locs ht hvm hw hB hz1 hk1 hS => ?_)
  have hP := roP hP hk1
  subst hw
  refine lv_iload hx hb dL_law_758 (lv_at hl 1 rfl) ?_
  refine lv_icmp_eq (tgt := 765) hx hb dL_law_760 (by decide) (fun _ => ?_) (fun h9 => absurd (by decide) h9)
  refine lv_iload hx hb dL_law_765 (lv_at hl 1 rfl) ?_
  refine lv_if_ne (tgt := 782) hx hb dL_law_767 (by decide) (fun _ => ?_) (fun h9 => absurd h9 (by decide))
  refine lv_goto (tgt := 1877) hx hb dL_law_782 (by decide) ?_
  refine W.widen (k := 600002) (n := 7302232) (Nat.le_of_ble_eq_true rfl) (Nat.le_of_ble_eq_true rfl) ?_
  exact law_tail hfl hx hb hr hml hown hts hX hbl hlocks hE hZ hA hbA hAo hL8 hS (lv_sub hl [6, 2] rfl)
set_option maxHeartbeats 8000000 in
set_option maxRecDepth 100000 in
theorem law_c9 {p : Program} {l : Launch} {e : Env} {s : State} {m : MethodId} {below : List Frame} {meth : Method} {c : Code} {dC : Nat → ClassId} {dI : Nat → Nat → Nat} {A : Nat → Prop} {b L : Nat} {xs : Nat → Int32} {h0 : Nat} {w : Nat} {kd : Nat} {cK : ClassId} {gW : Nat → Nat} {sg : Nat} {sn : Nat} {cS : ClassId} {gS : Nat → Nat} {ro : Nat} {cu : Nat} {c1 : Nat} {cC1 : ClassId} {gB1 : Nat → Nat} {sp : Nat} {c2 : Nat} {cC2 : ClassId} {gB2 : Nat → Nat} {gR : Nat → Nat} {tr : Nat} {gT : Nat → Nat} {gX : Nat → Nat} {m0 : Nat} {kdM : Nat} {ckM : ClassId} {fa : Nat} {cf : ClassId} {gw : Nat} {cg : ClassId} {gM : Nat → Nat} {ou : Nat} {cO : ClassId} (hfl : l.stackTraces = false) (hx : p.tables.exec = Jvm.exec) (hb : c.code = code) (hr : meth.sig.returnType = ret) (hml : c.maxLocals = 7) (hown : s.vm.findClass RL = some m.cls) (hts : ∀ w ∈ gU, w.before #[Value.ref b] s = true) (hX : va_X b L xs s s.heap) (hbl : b < s.heap.size) (hlocks : meth.locks = false) (hE : gEnv s) (hZ : gZ A s) (hA : ∀ q : Nat, s.heap.size ≤ q → A q) (hbA : ¬ A b) (hAo : ∀ q : Nat, A q → s.heap.size ≤ q) (hL8 : L = 8) : ∀ (H : Heap) (locs : List Loc), va_K (dC, dI) vwCl [(cK, .int), (cS, .long), (cC1, .int), (cC2, .int), (ckM, .int), (cf, .int), (cg, .int), (cO, .long)] s → va_P (dC, dI) vwCl [(h0, .inr (11, oX w sg ro tr gX)), (w, .inr (10, oW kd gW 0 0)), (kd, .inl (cK, 10, .inl (fun _ => 0))), (sg, .inr (7, oS w sn gS 0)), (sn, .inl (cS, 40, .inr (.inl (fun _ => 0)))), (ro, .inr (6, oR w sg cu sp gR 0 0)), (cu, .inr (8, oB c1 gB1)), (c1, .inl (cC1, 10, .inl (fun _ => 0))), (sp, .inr (8, oB c2 gB2)), (c2, .inl (cC2, 10, .inl (fun _ => 0))), (tr, .inr (9, oT w sg ro gT 0 0 0 0)), (m0, .inr (12, mM kdM gw fa gM 0 0 0 0 0 0 0 0 0)), (kdM, .inl (ckM, 10, .inl (fun _ => 0))), (fa, .inl (cf, 10, .inl (fun _ => 0))), (gw, .inl (cg, 10, .inl (fun _ => 0))), (ou, .inl (cO, 1, .inr (.inl (fun _ => 0))))] H → va_D A [(h0, .inr (11, oX w sg ro tr gX)), (w, .inr (10, oW kd gW 0 0)), (kd, .inl (cK, 10, .inl (fun _ => 0))), (sg, .inr (7, oS w sn gS 0)), (sn, .inl (cS, 40, .inr (.inl (fun _ => 0)))), (ro, .inr (6, oR w sg cu sp gR 0 0)), (cu, .inr (8, oB c1 gB1)), (c1, .inl (cC1, 10, .inl (fun _ => 0))), (sp, .inr (8, oB c2 gB2)), (c2, .inl (cC2, 10, .inl (fun _ => 0))), (tr, .inr (9, oT w sg ro gT 0 0 0 0)), (m0, .inr (12, mM kdM gw fa gM 0 0 0 0 0 0 0 0 0)), (kdM, .inl (ckM, 10, .inl (fun _ => 0))), (fa, .inl (cf, 10, .inl (fun _ => 0))), (gw, .inl (cg, 10, .inl (fun _ => 0))), (ou, .inl (cO, 1, .inr (.inl (fun _ => 0))))] → va_S A s.heap H locs → ∀ ls : Array Slot, lv_has ls 7 [(4, .int 0), (3, .ref ou), (2, .ref m0), (1, .ref h0), (0, .ref b)] → W p l e room_1 s m #[Value.ref b] below meth c H locs 441 44110 (lw_Z below #[Value.ref b] s) (F0 m 785 ls []) := by
  intro H locs hK hP hD hS ls hl
  refine lv_aload_n hx hb dL_law_785 rfl (lv_at hl 3 rfl) ?_
  refine lv_aload_n hx hb dL_law_786 rfl (lv_at hl 4 rfl) ?_
  refine lv_iload hx hb dL_law_787 (lv_at hl 0 rfl) ?_
  refine lv_iconst (v := 1) hx hb dL_law_789 (by decide) ?_
  refine lv_iadd hx hb dL_law_790 ?_
  refine lv_topi (fun z1148 ez1148 => ?_)
  obtain rfl : z1148 = 1 := ez1148.trans (by decide)
  refine va_sld hx hb hX hbl hbA hS (by rw [hL8]; unfold vp_in; decide) dL_law_791 ?_
  refine lv_aload_n hx hb dL_law_792 rfl (lv_at hl 4 rfl) ?_
  refine lv_iload hx hb dL_law_793 (lv_at hl 0 rfl) ?_
  refine lv_iconst (v := 2) hx hb dL_law_795 (by decide) ?_
  refine lv_iadd hx hb dL_law_796 ?_
  refine lv_topi (fun z1149 ez1149 => ?_)
  obtain rfl : z1149 = 2 := ez1149.trans (by decide)
  refine va_sld hx hb hX hbl hbA hS (by rw [hL8]; unfold vp_in; decide) dL_law_797 ?_
  refine lv_aload_n hx hb dL_law_798 rfl (lv_at hl 4 rfl) ?_
  refine lv_iload hx hb dL_law_799 (lv_at hl 0 rfl) ?_
  refine lv_iconst (v := 3) hx hb dL_law_801 (by decide) ?_
  refine lv_iadd hx hb dL_law_802 ?_
  refine lv_topi (fun z1150 ez1150 => ?_)
  obtain rfl : z1150 = 3 := ez1150.trans (by decide)
  refine va_sld hx hb hX hbl hbA hS (by rw [hL8]; unfold vp_in; decide) dL_law_803 ?_
  refine lv_aload_n hx hb dL_law_804 rfl (lv_at hl 4 rfl) ?_
  refine lv_iload hx hb dL_law_805 (lv_at hl 0 rfl) ?_
  refine lv_iconst (v := 4) hx hb dL_law_807 (by decide) ?_
  refine lv_iadd hx hb dL_law_808 ?_
  refine lv_topi (fun z1151 ez1151 => ?_)
  obtain rfl : z1151 = 4 := ez1151.trans (by decide)
  refine va_sld hx hb hX hbl hbA hS (by rw [hL8]; unfold vp_in; decide) dL_law_809 ?_
  refine lv_aload_n hx hb dL_law_810 rfl (lv_at hl 4 rfl) ?_
  refine lv_iload hx hb dL_law_811 (lv_at hl 0 rfl) ?_
  refine lv_iconst (v := 5) hx hb dL_law_813 (by decide) ?_
  refine lv_iadd hx hb dL_law_814 ?_
  refine lv_topi (fun z1152 ez1152 => ?_)
  obtain rfl : z1152 = 5 := ez1152.trans (by decide)
  refine va_sld hx hb hX hbl hbA hS (by rw [hL8]; unfold vp_in; decide) dL_law_815 ?_
  refine lv_aload_n hx hb dL_law_816 rfl (lv_at hl 4 rfl) ?_
  refine lv_iload hx hb dL_law_817 (lv_at hl 0 rfl) ?_
  refine lv_bipush (v := 6) hx hb dL_law_819 (by decide) ?_
  refine lv_iadd hx hb dL_law_821 ?_
  refine lv_topi (fun z1153 ez1153 => ?_)
  obtain rfl : z1153 = 6 := ez1153.trans (by decide)
  refine va_sld hx hb hX hbl hbA hS (by rw [hL8]; unfold vp_in; decide) dL_law_822 ?_
  refine lv_aload_n hx hb dL_law_823 rfl (lv_at hl 4 rfl) ?_
  refine lv_iload hx hb dL_law_824 (lv_at hl 0 rfl) ?_
  refine lv_bipush (v := 7) hx hb dL_law_826 (by decide) ?_
  refine lv_iadd hx hb dL_law_828 ?_
  refine lv_topi (fun z1154 ez1154 => ?_)
  obtain rfl : z1154 = 7 := ez1154.trans (by decide)
  refine va_sld hx hb hX hbl hbA hS (by rw [hL8]; unfold vp_in; decide) dL_law_829 ?_
  refine lv_if_eq (tgt := 837) hx hb dL_law_830 (by decide) (fun h1155 => ?_) (fun h1155 => ?_)
  · refine lv_iconst (v := 0) hx hb dL_law_837 (by decide) ?_
    refine lv_aload_n hx hb dL_law_838 rfl (lv_at hl 1 rfl) ?_
    have hPc := hP.sub (ws' := [(h0, .inr (11, oX w sg ro tr gX)), (w, .inr (10, oW kd gW 0 0))]) [0, 1] rfl
    have hDc := hD.sub (ws' := [(h0, .inr (11, oX w sg ro tr gX)), (w, .inr (10, oW kd gW 0 0))]) [0, 1] (by decide) rfl
    have hKc := hK.sub (tys' := []) [] rfl
    have hFc := roF hS hA
    refine va_calli (vx_runSW (As := [.ref h0, .int (xs (1 : Int32).toNatClampNeg), .int (xs (2 : Int32).toNatClampNeg), .int (xs (3 : Int32).toNatClampNeg), .int (xs (4 : Int32).toNatClampNeg), .int (xs (5 : Int32).toNatClampNeg), .int (xs (6 : Int32).toNatClampNeg), .int 0, .ref ou]) (rest := []) ⟨hx, hb, hml, hown, hts⟩ (c_L_rule l dC dI H.size hfl h0 ou w sg ro tr gX kd gW (xs (1 : Int32).toNatClampNeg) (xs (2 : Int32).toNatClampNeg) (xs (3 : Int32).toNatClampNeg) (xs (4 : Int32).toNatClampNeg) (xs (5 : Int32).toNatClampNeg) (xs (6 : Int32).toNatClampNeg) 0) (vx_cwSW 9 hts (gSt u_805 u_806 u_0 u_807) rfl rfl rfl (by decide +kernel) ⟨Nat.le_of_ble_eq_true rfl, Nat.le_of_ble_eq_true rfl⟩) ⟨gPZ_blind, gPZ_call hPc hKc hDc hE hZ hS hFc⟩ rfl rfl hl.1 rfl (lv_room (Nat.le_of_ble_eq_true rfl)) dL_law_839 ⟨(Nat.le_of_ble_eq_true rfl), (Nat.le_of_ble_eq_true rfl)⟩) hS (fun q _ h => hFc q h) hFc (fun r1158 u1156 t9 H1157 locs ht hvm hw hB hz1 hk1 hS => ?_)
    have hP := roP hP hk1
    subst hw
    refine W.widen (k := 442) (n := 44116) (Nat.le_of_ble_eq_true rfl) (Nat.le_of_ble_eq_true rfl) ?_
    refine lv_istore (lv' := [(5, .int 1), (4, .int 0), (3, .ref ou), (2, .ref m0), (1, .ref h0), (0, .ref b)]) hx hb dL_law_842 hl (by decide) rfl (fun ls hl => ?_)
    refine lv_aload_n hx hb dL_law_844 rfl (lv_at hl 3 rfl) ?_
    refine lv_aload_n hx hb dL_law_845 rfl (lv_at hl 5 rfl) ?_
    refine lv_iload hx hb dL_law_846 (lv_at hl 1 rfl) ?_
    refine lv_iconst (v := 1) hx hb dL_law_848 (by decide) ?_
    refine lv_iadd hx hb dL_law_849 ?_
    refine lv_topi (fun z1159 ez1159 => ?_)
    obtain rfl : z1159 = 1 := ez1159.trans (by decide)
    refine va_sld hx hb hX hbl hbA hS (by rw [hL8]; unfold vp_in; decide) dL_law_850 ?_
    refine lv_aload_n hx hb dL_law_851 rfl (lv_at hl 5 rfl) ?_
    refine lv_iload hx hb dL_law_852 (lv_at hl 1 rfl) ?_
    refine lv_iconst (v := 2) hx hb dL_law_854 (by decide) ?_
    refine lv_iadd hx hb dL_law_855 ?_
    refine lv_topi (fun z1160 ez1160 => ?_)
    obtain rfl : z1160 = 2 := ez1160.trans (by decide)
    refine va_sld hx hb hX hbl hbA hS (by rw [hL8]; unfold vp_in; decide) dL_law_856 ?_
    refine lv_aload_n hx hb dL_law_857 rfl (lv_at hl 5 rfl) ?_
    refine lv_iload hx hb dL_law_858 (lv_at hl 1 rfl) ?_
    refine lv_iconst (v := 3) hx hb dL_law_860 (by decide) ?_
    refine lv_iadd hx hb dL_law_861 ?_
    refine lv_topi (fun z1161 ez1161 => ?_)
    obtain rfl : z1161 = 3 := ez1161.trans (by decide)
    refine va_sld hx hb hX hbl hbA hS (by rw [hL8]; unfold vp_in; decide) dL_law_862 ?_
    refine lv_aload_n hx hb dL_law_863 rfl (lv_at hl 5 rfl) ?_
    refine lv_iload hx hb dL_law_864 (lv_at hl 1 rfl) ?_
    refine lv_iconst (v := 4) hx hb dL_law_866 (by decide) ?_
    refine lv_iadd hx hb dL_law_867 ?_
    refine lv_topi (fun z1162 ez1162 => ?_)
    obtain rfl : z1162 = 4 := ez1162.trans (by decide)
    refine va_sld hx hb hX hbl hbA hS (by rw [hL8]; unfold vp_in; decide) dL_law_868 ?_
    refine lv_aload_n hx hb dL_law_869 rfl (lv_at hl 5 rfl) ?_
    refine lv_iload hx hb dL_law_870 (lv_at hl 1 rfl) ?_
    refine lv_iconst (v := 5) hx hb dL_law_872 (by decide) ?_
    refine lv_iadd hx hb dL_law_873 ?_
    refine lv_topi (fun z1163 ez1163 => ?_)
    obtain rfl : z1163 = 5 := ez1163.trans (by decide)
    refine va_sld hx hb hX hbl hbA hS (by rw [hL8]; unfold vp_in; decide) dL_law_874 ?_
    refine lv_aload_n hx hb dL_law_875 rfl (lv_at hl 5 rfl) ?_
    refine lv_iload hx hb dL_law_876 (lv_at hl 1 rfl) ?_
    refine lv_bipush (v := 6) hx hb dL_law_878 (by decide) ?_
    refine lv_iadd hx hb dL_law_880 ?_
    refine lv_topi (fun z1164 ez1164 => ?_)
    obtain rfl : z1164 = 6 := ez1164.trans (by decide)
    refine va_sld hx hb hX hbl hbA hS (by rw [hL8]; unfold vp_in; decide) dL_law_881 ?_
    refine lv_aload_n hx hb dL_law_882 rfl (lv_at hl 5 rfl) ?_
    refine lv_iload hx hb dL_law_883 (lv_at hl 1 rfl) ?_
    refine lv_bipush (v := 7) hx hb dL_law_885 (by decide) ?_
    refine lv_iadd hx hb dL_law_887 ?_
    refine lv_topi (fun z1165 ez1165 => ?_)
    obtain rfl : z1165 = 7 := ez1165.trans (by decide)
    refine va_sld hx hb hX hbl hbA hS (by rw [hL8]; unfold vp_in; decide) dL_law_888 ?_
    refine lv_if_eq (tgt := 896) hx hb dL_law_889 (by decide) (fun h1166 => ?_) (fun h1166 => ?_)
    · refine lv_iconst (v := 0) hx hb dL_law_896 (by decide) ?_
      have hPc := hP.sub (ws' := [(m0, .inr (12, mM kdM gw fa gM 0 0 0 0 0 0 0 0 0))]) [11] rfl
      have hDc := hD.sub (ws' := [(m0, .inr (12, mM kdM gw fa gM 0 0 0 0 0 0 0 0 0))]) [11] (by decide) rfl
      have hKc := hK.sub (tys' := []) [] rfl
      have hFc := va_free (wc := [(m0, .inr (12, mM kdM gw fa gM 0 0 0 0 0 0 0 0 0))]) hD hS hA [11] rfl
      refine va_calli (va_runV (As := [.int (xs (1 : Int32).toNatClampNeg), .int (xs (2 : Int32).toNatClampNeg), .int (xs (3 : Int32).toNatClampNeg), .int (xs (4 : Int32).toNatClampNeg), .int (xs (5 : Int32).toNatClampNeg), .int (xs (6 : Int32).toNatClampNeg), .int 0]) (rest := []) ⟨hx, hb, hml, hown, hts⟩ (c_X12_rule l dC dI H1157.size m0 kdM gw fa gM 0 (xs (1 : Int32).toNatClampNeg) (xs (2 : Int32).toNatClampNeg) (xs (3 : Int32).toNatClampNeg) (xs (4 : Int32).toNatClampNeg) (xs (5 : Int32).toNatClampNeg) (xs (6 : Int32).toNatClampNeg) 0) (cwV 7 hts (gV u_1502 u_1503 u_1504 u_14 u_1505) rfl rfl rfl (by decide +kernel) ⟨Nat.le_of_ble_eq_true rfl, Nat.le_of_ble_eq_true rfl⟩) ⟨gP_blind, va_recv hKc hPc (ci := 12) (q0 := 0) rfl rfl, gP_call hPc hKc hDc hE⟩ rfl rfl hl.1 rfl (lv_room (Nat.le_of_ble_eq_true rfl)) dL_law_897 ⟨(Nat.le_of_ble_eq_true rfl), (Nat.le_of_ble_eq_true rfl)⟩) hS (fun q _ h => hFc q h) hFc (fun r1169 u1167 t9 H1168 locs ht hvm hw hB hz1 hk1 hS => ?_)
      obtain ⟨hP1, hK1, hD1⟩ := hB
      rw [ht] at hP1
      have hK1 := va_K.moved hvm.symm hK1
      obtain ⟨hP, hD⟩ := va_join (wr := [(h0, .inr (11, oX w sg ro tr gX)), (w, .inr (10, oW kd gW 0 0)), (kd, .inl (cK, 10, .inl (fun _ => 0))), (sg, .inr (7, oS w sn gS 0)), (sn, .inl (cS, 40, .inr (.inl (fun _ => 0)))), (ro, .inr (6, oR w sg cu sp gR 0 0)), (cu, .inr (8, oB c1 gB1)), (c1, .inl (cC1, 10, .inl (fun _ => 0))), (sp, .inr (8, oB c2 gB2)), (c2, .inl (cC2, 10, .inl (fun _ => 0))), (tr, .inr (9, oT w sg ro gT 0 0 0 0)), (kdM, .inl (ckM, 10, .inl (fun _ => 0))), (fa, .inl (cf, 10, .inl (fun _ => 0))), (gw, .inl (cg, 10, .inl (fun _ => 0))), (ou, .inl (cO, 1, .inr (.inl (fun _ => 0))))]) (w1 := [(m0, .inr (12, mM kdM gw fa gM 0 0 0 0 0 0 0 0 1))]) hP hD [11] [0, 1, 2, 3, 4, 5, 6, 7, 8, 9, 10, 12, 13, 14, 15] rfl rfl (by decide) (by decide) hk1 hFc hP1 hD1
      have hK := (hK.sub (tys' := [(cK, .int), (cS, .long), (cC1, .int), (cC2, .int), (ckM, .int), (cf, .int), (cg, .int), (cO, .long)]) [0, 1, 2, 3, 4, 5, 6, 7] rfl).app hK1
      have hK : va_K (dC, dI) vwCl [(cK, .int), (cS, .long), (cC1, .int), (cC2, .int), (ckM, .int), (cf, .int), (cg, .int), (cO, .long)] s := hK
      have hP : va_P (dC, dI) vwCl [(h0, .inr (11, oX w sg ro tr gX)), (w, .inr (10, oW kd gW 0 0)), (kd, .inl (cK, 10, .inl (fun _ => 0))), (sg, .inr (7, oS w sn gS 0)), (sn, .inl (cS, 40, .inr (.inl (fun _ => 0)))), (ro, .inr (6, oR w sg cu sp gR 0 0)), (cu, .inr (8, oB c1 gB1)), (c1, .inl (cC1, 10, .inl (fun _ => 0))), (sp, .inr (8, oB c2 gB2)), (c2, .inl (cC2, 10, .inl (fun _ => 0))), (tr, .inr (9, oT w sg ro gT 0 0 0 0)), (kdM, .inl (ckM, 10, .inl (fun _ => 0))), (fa, .inl (cf, 10, .inl (fun _ => 0))), (gw, .inl (cg, 10, .inl (fun _ => 0))), (ou, .inl (cO, 1, .inr (.inl (fun _ => 0)))), (m0, .inr (12, mM kdM gw fa gM 0 0 0 0 0 0 0 0 1))] H1168 := hP
      have hD : va_D A [(h0, .inr (11, oX w sg ro tr gX)), (w, .inr (10, oW kd gW 0 0)), (kd, .inl (cK, 10, .inl (fun _ => 0))), (sg, .inr (7, oS w sn gS 0)), (sn, .inl (cS, 40, .inr (.inl (fun _ => 0)))), (ro, .inr (6, oR w sg cu sp gR 0 0)), (cu, .inr (8, oB c1 gB1)), (c1, .inl (cC1, 10, .inl (fun _ => 0))), (sp, .inr (8, oB c2 gB2)), (c2, .inl (cC2, 10, .inl (fun _ => 0))), (tr, .inr (9, oT w sg ro gT 0 0 0 0)), (kdM, .inl (ckM, 10, .inl (fun _ => 0))), (fa, .inl (cf, 10, .inl (fun _ => 0))), (gw, .inl (cg, 10, .inl (fun _ => 0))), (ou, .inl (cO, 1, .inr (.inl (fun _ => 0)))), (m0, .inr (12, mM kdM gw fa gM 0 0 0 0 0 0 0 0 1))] := hD
      subst hw
      refine lv_istore (lv' := [(6, .int 0), (5, .int 1), (4, .int 0), (3, .ref ou), (2, .ref m0), (1, .ref h0), (0, .ref b)]) hx hb dL_law_900 hl (by decide) rfl (fun ls hl => ?_)
      refine lv_aload_n hx hb dL_law_902 rfl (lv_at hl 4 rfl) ?_
      have hPc := hP.sub (ws' := [(m0, .inr (12, mM kdM gw fa gM 0 0 0 0 0 0 0 0 1))]) [15] rfl
      have hDc := hD.sub (ws' := [(m0, .inr (12, mM kdM gw fa gM 0 0 0 0 0 0 0 0 1))]) [15] (by decide) rfl
      have hKc := hK.sub (tys' := []) [] rfl
      have hFc := roF hS hA
      refine va_calli (va_runV (As := []) (rest := []) ⟨hx, hb, hml, hown, hts⟩ (cu_X12_thrown l dC dI H1168.size m0 kdM gw fa gM 1 0 0) (cwV 0 hts (gV u_1392 u_1393 u_1394 u_14 u_1395) rfl rfl rfl (by decide +kernel) ⟨Nat.le_of_ble_eq_true rfl, Nat.le_of_ble_eq_true rfl⟩) ⟨gP_blind, va_recv hKc hPc (ci := 12) (q0 := 0) rfl rfl, gP_call hPc hKc hDc hE⟩ rfl rfl hl.1 rfl (lv_room (Nat.le_of_ble_eq_true rfl)) dL_law_903 ⟨(Nat.le_of_ble_eq_true rfl), (Nat.le_of_ble_eq_true rfl)⟩) hS (fun q _ h => hFc q h) hFc (fun r1172 u1170 t9 H1171 locs ht hvm hw hB hz1 hk1 hS => ?_)
      have hP := roP hP hk1
      subst hw
      refine lv_iload hx hb dL_law_906 (lv_at hl 1 rfl) ?_
      refine lv_icmp_eq (tgt := 913) hx hb dL_law_908 (by decide) (fun _ => ?_) (fun h9 => absurd (by decide) h9)
      refine lv_iload hx hb dL_law_913 (lv_at hl 1 rfl) ?_
      refine lv_if_ne (tgt := 930) hx hb dL_law_915 (by decide) (fun _ => ?_) (fun h9 => absurd h9 (by decide))
      refine lv_goto (tgt := 1877) hx hb dL_law_930 (by decide) ?_
      refine W.widen (k := 600002) (n := 7302232) (Nat.le_of_ble_eq_true rfl) (Nat.le_of_ble_eq_true rfl) ?_
      exact law_tail hfl hx hb hr hml hown hts hX hbl hlocks hE hZ hA hbA hAo hL8 hS (lv_sub hl [6, 2] rfl)
    · refine lv_iconst (v := 1) hx hb dL_law_892 (by decide) ?_
      refine lv_goto (tgt := 897) hx hb dL_law_893 (by decide) ?_
      have hPc := hP.sub (ws' := [(m0, .inr (12, mM kdM gw fa gM 0 0 0 0 0 0 0 0 0))]) [11] rfl
      have hDc := hD.sub (ws' := [(m0, .inr (12, mM kdM gw fa gM 0 0 0 0 0 0 0 0 0))]) [11] (by decide) rfl
      have hKc := hK.sub (tys' := []) [] rfl
      have hFc := va_free (wc := [(m0, .inr (12, mM kdM gw fa gM 0 0 0 0 0 0 0 0 0))]) hD hS hA [11] rfl
      refine va_calli (va_runV (As := [.int (xs (1 : Int32).toNatClampNeg), .int (xs (2 : Int32).toNatClampNeg), .int (xs (3 : Int32).toNatClampNeg), .int (xs (4 : Int32).toNatClampNeg), .int (xs (5 : Int32).toNatClampNeg), .int (xs (6 : Int32).toNatClampNeg), .int 1]) (rest := []) ⟨hx, hb, hml, hown, hts⟩ (c_X12_rule l dC dI H1157.size m0 kdM gw fa gM 0 (xs (1 : Int32).toNatClampNeg) (xs (2 : Int32).toNatClampNeg) (xs (3 : Int32).toNatClampNeg) (xs (4 : Int32).toNatClampNeg) (xs (5 : Int32).toNatClampNeg) (xs (6 : Int32).toNatClampNeg) 1) (cwV 7 hts (gV u_1502 u_1503 u_1504 u_14 u_1505) rfl rfl rfl (by decide +kernel) ⟨Nat.le_of_ble_eq_true rfl, Nat.le_of_ble_eq_true rfl⟩) ⟨gP_blind, va_recv hKc hPc (ci := 12) (q0 := 0) rfl rfl, gP_call hPc hKc hDc hE⟩ rfl rfl hl.1 rfl (lv_room (Nat.le_of_ble_eq_true rfl)) dL_law_897 ⟨(Nat.le_of_ble_eq_true rfl), (Nat.le_of_ble_eq_true rfl)⟩) hS (fun q _ h => hFc q h) hFc (fun r1175 u1173 t9 H1174 locs ht hvm hw hB hz1 hk1 hS => ?_)
      obtain ⟨hP1, hK1, hD1⟩ := hB
      rw [ht] at hP1
      have hK1 := va_K.moved hvm.symm hK1
      obtain ⟨hP, hD⟩ := va_join (wr := [(h0, .inr (11, oX w sg ro tr gX)), (w, .inr (10, oW kd gW 0 0)), (kd, .inl (cK, 10, .inl (fun _ => 0))), (sg, .inr (7, oS w sn gS 0)), (sn, .inl (cS, 40, .inr (.inl (fun _ => 0)))), (ro, .inr (6, oR w sg cu sp gR 0 0)), (cu, .inr (8, oB c1 gB1)), (c1, .inl (cC1, 10, .inl (fun _ => 0))), (sp, .inr (8, oB c2 gB2)), (c2, .inl (cC2, 10, .inl (fun _ => 0))), (tr, .inr (9, oT w sg ro gT 0 0 0 0)), (kdM, .inl (ckM, 10, .inl (fun _ => 0))), (fa, .inl (cf, 10, .inl (fun _ => 0))), (gw, .inl (cg, 10, .inl (fun _ => 0))), (ou, .inl (cO, 1, .inr (.inl (fun _ => 0))))]) (w1 := [(m0, .inr (12, mM kdM gw fa gM 0 0 0 0 0 0 0 0 1))]) hP hD [11] [0, 1, 2, 3, 4, 5, 6, 7, 8, 9, 10, 12, 13, 14, 15] rfl rfl (by decide) (by decide) hk1 hFc hP1 hD1
      have hK := (hK.sub (tys' := [(cK, .int), (cS, .long), (cC1, .int), (cC2, .int), (ckM, .int), (cf, .int), (cg, .int), (cO, .long)]) [0, 1, 2, 3, 4, 5, 6, 7] rfl).app hK1
      have hK : va_K (dC, dI) vwCl [(cK, .int), (cS, .long), (cC1, .int), (cC2, .int), (ckM, .int), (cf, .int), (cg, .int), (cO, .long)] s := hK
      have hP : va_P (dC, dI) vwCl [(h0, .inr (11, oX w sg ro tr gX)), (w, .inr (10, oW kd gW 0 0)), (kd, .inl (cK, 10, .inl (fun _ => 0))), (sg, .inr (7, oS w sn gS 0)), (sn, .inl (cS, 40, .inr (.inl (fun _ => 0)))), (ro, .inr (6, oR w sg cu sp gR 0 0)), (cu, .inr (8, oB c1 gB1)), (c1, .inl (cC1, 10, .inl (fun _ => 0))), (sp, .inr (8, oB c2 gB2)), (c2, .inl (cC2, 10, .inl (fun _ => 0))), (tr, .inr (9, oT w sg ro gT 0 0 0 0)), (kdM, .inl (ckM, 10, .inl (fun _ => 0))), (fa, .inl (cf, 10, .inl (fun _ => 0))), (gw, .inl (cg, 10, .inl (fun _ => 0))), (ou, .inl (cO, 1, .inr (.inl (fun _ => 0)))), (m0, .inr (12, mM kdM gw fa gM 0 0 0 0 0 0 0 0 1))] H1174 := hP
      have hD : va_D A [(h0, .inr (11, oX w sg ro tr gX)), (w, .inr (10, oW kd gW 0 0)), (kd, .inl (cK, 10, .inl (fun _ => 0))), (sg, .inr (7, oS w sn gS 0)), (sn, .inl (cS, 40, .inr (.inl (fun _ => 0)))), (ro, .inr (6, oR w sg cu sp gR 0 0)), (cu, .inr (8, oB c1 gB1)), (c1, .inl (cC1, 10, .inl (fun _ => 0))), (sp, .inr (8, oB c2 gB2)), (c2, .inl (cC2, 10, .inl (fun _ => 0))), (tr, .inr (9, oT w sg ro gT 0 0 0 0)), (kdM, .inl (ckM, 10, .inl (fun _ => 0))), (fa, .inl (cf, 10, .inl (fun _ => 0))), (gw, .inl (cg, 10, .inl (fun _ => 0))), (ou, .inl (cO, 1, .inr (.inl (fun _ => 0)))), (m0, .inr (12, mM kdM gw fa gM 0 0 0 0 0 0 0 0 1))] := hD
      subst hw
      refine lv_istore (lv' := [(6, .int 0), (5, .int 1), (4, .int 0), (3, .ref ou), (2, .ref m0), (1, .ref h0), (0, .ref b)]) hx hb dL_law_900 hl (by decide) rfl (fun ls hl => ?_)
      refine lv_aload_n hx hb dL_law_902 rfl (lv_at hl 4 rfl) ?_
      have hPc := hP.sub (ws' := [(m0, .inr (12, mM kdM gw fa gM 0 0 0 0 0 0 0 0 1))]) [15] rfl
      have hDc := hD.sub (ws' := [(m0, .inr (12, mM kdM gw fa gM 0 0 0 0 0 0 0 0 1))]) [15] (by decide) rfl
      have hKc := hK.sub (tys' := []) [] rfl
      have hFc := roF hS hA
      refine va_calli (va_runV (As := []) (rest := []) ⟨hx, hb, hml, hown, hts⟩ (cu_X12_thrown l dC dI H1174.size m0 kdM gw fa gM 1 0 0) (cwV 0 hts (gV u_1392 u_1393 u_1394 u_14 u_1395) rfl rfl rfl (by decide +kernel) ⟨Nat.le_of_ble_eq_true rfl, Nat.le_of_ble_eq_true rfl⟩) ⟨gP_blind, va_recv hKc hPc (ci := 12) (q0 := 0) rfl rfl, gP_call hPc hKc hDc hE⟩ rfl rfl hl.1 rfl (lv_room (Nat.le_of_ble_eq_true rfl)) dL_law_903 ⟨(Nat.le_of_ble_eq_true rfl), (Nat.le_of_ble_eq_true rfl)⟩) hS (fun q _ h => hFc q h) hFc (fun r1178 u1176 t9 H1177 locs ht hvm hw hB hz1 hk1 hS => ?_)
      have hP := roP hP hk1
      subst hw
      refine lv_iload hx hb dL_law_906 (lv_at hl 1 rfl) ?_
      refine lv_icmp_eq (tgt := 913) hx hb dL_law_908 (by decide) (fun _ => ?_) (fun h9 => absurd (by decide) h9)
      refine lv_iload hx hb dL_law_913 (lv_at hl 1 rfl) ?_
      refine lv_if_ne (tgt := 930) hx hb dL_law_915 (by decide) (fun _ => ?_) (fun h9 => absurd h9 (by decide))
      refine lv_goto (tgt := 1877) hx hb dL_law_930 (by decide) ?_
      refine W.widen (k := 600002) (n := 7302232) (Nat.le_of_ble_eq_true rfl) (Nat.le_of_ble_eq_true rfl) ?_
      exact law_tail hfl hx hb hr hml hown hts hX hbl hlocks hE hZ hA hbA hAo hL8 hS (lv_sub hl [6, 2] rfl)
  · refine lv_iconst (v := 1) hx hb dL_law_833 (by decide) ?_
    refine lv_goto (tgt := 838) hx hb dL_law_834 (by decide) ?_
    refine lv_aload_n hx hb dL_law_838 rfl (lv_at hl 1 rfl) ?_
    have hPc := hP.sub (ws' := [(h0, .inr (11, oX w sg ro tr gX)), (w, .inr (10, oW kd gW 0 0))]) [0, 1] rfl
    have hDc := hD.sub (ws' := [(h0, .inr (11, oX w sg ro tr gX)), (w, .inr (10, oW kd gW 0 0))]) [0, 1] (by decide) rfl
    have hKc := hK.sub (tys' := []) [] rfl
    have hFc := roF hS hA
    refine va_calli (vx_runSW (As := [.ref h0, .int (xs (1 : Int32).toNatClampNeg), .int (xs (2 : Int32).toNatClampNeg), .int (xs (3 : Int32).toNatClampNeg), .int (xs (4 : Int32).toNatClampNeg), .int (xs (5 : Int32).toNatClampNeg), .int (xs (6 : Int32).toNatClampNeg), .int 1, .ref ou]) (rest := []) ⟨hx, hb, hml, hown, hts⟩ (c_L_rule l dC dI H.size hfl h0 ou w sg ro tr gX kd gW (xs (1 : Int32).toNatClampNeg) (xs (2 : Int32).toNatClampNeg) (xs (3 : Int32).toNatClampNeg) (xs (4 : Int32).toNatClampNeg) (xs (5 : Int32).toNatClampNeg) (xs (6 : Int32).toNatClampNeg) 1) (vx_cwSW 9 hts (gSt u_805 u_806 u_0 u_807) rfl rfl rfl (by decide +kernel) ⟨Nat.le_of_ble_eq_true rfl, Nat.le_of_ble_eq_true rfl⟩) ⟨gPZ_blind, gPZ_call hPc hKc hDc hE hZ hS hFc⟩ rfl rfl hl.1 rfl (lv_room (Nat.le_of_ble_eq_true rfl)) dL_law_839 ⟨(Nat.le_of_ble_eq_true rfl), (Nat.le_of_ble_eq_true rfl)⟩) hS (fun q _ h => hFc q h) hFc (fun r1181 u1179 t9 H1180 locs ht hvm hw hB hz1 hk1 hS => ?_)
    have hP := roP hP hk1
    subst hw
    refine W.widen (k := 442) (n := 44116) (Nat.le_of_ble_eq_true rfl) (Nat.le_of_ble_eq_true rfl) ?_
    refine lv_istore (lv' := [(5, .int 1), (4, .int 0), (3, .ref ou), (2, .ref m0), (1, .ref h0), (0, .ref b)]) hx hb dL_law_842 hl (by decide) rfl (fun ls hl => ?_)
    refine lv_aload_n hx hb dL_law_844 rfl (lv_at hl 3 rfl) ?_
    refine lv_aload_n hx hb dL_law_845 rfl (lv_at hl 5 rfl) ?_
    refine lv_iload hx hb dL_law_846 (lv_at hl 1 rfl) ?_
    refine lv_iconst (v := 1) hx hb dL_law_848 (by decide) ?_
    refine lv_iadd hx hb dL_law_849 ?_
    refine lv_topi (fun z1182 ez1182 => ?_)
    obtain rfl : z1182 = 1 := ez1182.trans (by decide)
    refine va_sld hx hb hX hbl hbA hS (by rw [hL8]; unfold vp_in; decide) dL_law_850 ?_
    refine lv_aload_n hx hb dL_law_851 rfl (lv_at hl 5 rfl) ?_
    refine lv_iload hx hb dL_law_852 (lv_at hl 1 rfl) ?_
    refine lv_iconst (v := 2) hx hb dL_law_854 (by decide) ?_
    refine lv_iadd hx hb dL_law_855 ?_
    refine lv_topi (fun z1183 ez1183 => ?_)
    obtain rfl : z1183 = 2 := ez1183.trans (by decide)
    refine va_sld hx hb hX hbl hbA hS (by rw [hL8]; unfold vp_in; decide) dL_law_856 ?_
    refine lv_aload_n hx hb dL_law_857 rfl (lv_at hl 5 rfl) ?_
    refine lv_iload hx hb dL_law_858 (lv_at hl 1 rfl) ?_
    refine lv_iconst (v := 3) hx hb dL_law_860 (by decide) ?_
    refine lv_iadd hx hb dL_law_861 ?_
    refine lv_topi (fun z1184 ez1184 => ?_)
    obtain rfl : z1184 = 3 := ez1184.trans (by decide)
    refine va_sld hx hb hX hbl hbA hS (by rw [hL8]; unfold vp_in; decide) dL_law_862 ?_
    refine lv_aload_n hx hb dL_law_863 rfl (lv_at hl 5 rfl) ?_
    refine lv_iload hx hb dL_law_864 (lv_at hl 1 rfl) ?_
    refine lv_iconst (v := 4) hx hb dL_law_866 (by decide) ?_
    refine lv_iadd hx hb dL_law_867 ?_
    refine lv_topi (fun z1185 ez1185 => ?_)
    obtain rfl : z1185 = 4 := ez1185.trans (by decide)
    refine va_sld hx hb hX hbl hbA hS (by rw [hL8]; unfold vp_in; decide) dL_law_868 ?_
    refine lv_aload_n hx hb dL_law_869 rfl (lv_at hl 5 rfl) ?_
    refine lv_iload hx hb dL_law_870 (lv_at hl 1 rfl) ?_
    refine lv_iconst (v := 5) hx hb dL_law_872 (by decide) ?_
    refine lv_iadd hx hb dL_law_873 ?_
    refine lv_topi (fun z1186 ez1186 => ?_)
    obtain rfl : z1186 = 5 := ez1186.trans (by decide)
    refine va_sld hx hb hX hbl hbA hS (by rw [hL8]; unfold vp_in; decide) dL_law_874 ?_
    refine lv_aload_n hx hb dL_law_875 rfl (lv_at hl 5 rfl) ?_
    refine lv_iload hx hb dL_law_876 (lv_at hl 1 rfl) ?_
    refine lv_bipush (v := 6) hx hb dL_law_878 (by decide) ?_
    refine lv_iadd hx hb dL_law_880 ?_
    refine lv_topi (fun z1187 ez1187 => ?_)
    obtain rfl : z1187 = 6 := ez1187.trans (by decide)
    refine va_sld hx hb hX hbl hbA hS (by rw [hL8]; unfold vp_in; decide) dL_law_881 ?_
    refine lv_aload_n hx hb dL_law_882 rfl (lv_at hl 5 rfl) ?_
    refine lv_iload hx hb dL_law_883 (lv_at hl 1 rfl) ?_
    refine lv_bipush (v := 7) hx hb dL_law_885 (by decide) ?_
    refine lv_iadd hx hb dL_law_887 ?_
    refine lv_topi (fun z1188 ez1188 => ?_)
    obtain rfl : z1188 = 7 := ez1188.trans (by decide)
    refine va_sld hx hb hX hbl hbA hS (by rw [hL8]; unfold vp_in; decide) dL_law_888 ?_
    refine lv_if_eq (tgt := 896) hx hb dL_law_889 (by decide) (fun h1189 => ?_) (fun h1189 => ?_)
    · refine lv_iconst (v := 0) hx hb dL_law_896 (by decide) ?_
      have hPc := hP.sub (ws' := [(m0, .inr (12, mM kdM gw fa gM 0 0 0 0 0 0 0 0 0))]) [11] rfl
      have hDc := hD.sub (ws' := [(m0, .inr (12, mM kdM gw fa gM 0 0 0 0 0 0 0 0 0))]) [11] (by decide) rfl
      have hKc := hK.sub (tys' := []) [] rfl
      have hFc := va_free (wc := [(m0, .inr (12, mM kdM gw fa gM 0 0 0 0 0 0 0 0 0))]) hD hS hA [11] rfl
      refine va_calli (va_runV (As := [.int (xs (1 : Int32).toNatClampNeg), .int (xs (2 : Int32).toNatClampNeg), .int (xs (3 : Int32).toNatClampNeg), .int (xs (4 : Int32).toNatClampNeg), .int (xs (5 : Int32).toNatClampNeg), .int (xs (6 : Int32).toNatClampNeg), .int 0]) (rest := []) ⟨hx, hb, hml, hown, hts⟩ (c_X12_rule l dC dI H1180.size m0 kdM gw fa gM 0 (xs (1 : Int32).toNatClampNeg) (xs (2 : Int32).toNatClampNeg) (xs (3 : Int32).toNatClampNeg) (xs (4 : Int32).toNatClampNeg) (xs (5 : Int32).toNatClampNeg) (xs (6 : Int32).toNatClampNeg) 0) (cwV 7 hts (gV u_1502 u_1503 u_1504 u_14 u_1505) rfl rfl rfl (by decide +kernel) ⟨Nat.le_of_ble_eq_true rfl, Nat.le_of_ble_eq_true rfl⟩) ⟨gP_blind, va_recv hKc hPc (ci := 12) (q0 := 0) rfl rfl, gP_call hPc hKc hDc hE⟩ rfl rfl hl.1 rfl (lv_room (Nat.le_of_ble_eq_true rfl)) dL_law_897 ⟨(Nat.le_of_ble_eq_true rfl), (Nat.le_of_ble_eq_true rfl)⟩) hS (fun q _ h => hFc q h) hFc (fun r1192 u1190 t9 H1191 locs ht hvm hw hB hz1 hk1 hS => ?_)
      obtain ⟨hP1, hK1, hD1⟩ := hB
      rw [ht] at hP1
      have hK1 := va_K.moved hvm.symm hK1
      obtain ⟨hP, hD⟩ := va_join (wr := [(h0, .inr (11, oX w sg ro tr gX)), (w, .inr (10, oW kd gW 0 0)), (kd, .inl (cK, 10, .inl (fun _ => 0))), (sg, .inr (7, oS w sn gS 0)), (sn, .inl (cS, 40, .inr (.inl (fun _ => 0)))), (ro, .inr (6, oR w sg cu sp gR 0 0)), (cu, .inr (8, oB c1 gB1)), (c1, .inl (cC1, 10, .inl (fun _ => 0))), (sp, .inr (8, oB c2 gB2)), (c2, .inl (cC2, 10, .inl (fun _ => 0))), (tr, .inr (9, oT w sg ro gT 0 0 0 0)), (kdM, .inl (ckM, 10, .inl (fun _ => 0))), (fa, .inl (cf, 10, .inl (fun _ => 0))), (gw, .inl (cg, 10, .inl (fun _ => 0))), (ou, .inl (cO, 1, .inr (.inl (fun _ => 0))))]) (w1 := [(m0, .inr (12, mM kdM gw fa gM 0 0 0 0 0 0 0 0 1))]) hP hD [11] [0, 1, 2, 3, 4, 5, 6, 7, 8, 9, 10, 12, 13, 14, 15] rfl rfl (by decide) (by decide) hk1 hFc hP1 hD1
      have hK := (hK.sub (tys' := [(cK, .int), (cS, .long), (cC1, .int), (cC2, .int), (ckM, .int), (cf, .int), (cg, .int), (cO, .long)]) [0, 1, 2, 3, 4, 5, 6, 7] rfl).app hK1
      have hK : va_K (dC, dI) vwCl [(cK, .int), (cS, .long), (cC1, .int), (cC2, .int), (ckM, .int), (cf, .int), (cg, .int), (cO, .long)] s := hK
      have hP : va_P (dC, dI) vwCl [(h0, .inr (11, oX w sg ro tr gX)), (w, .inr (10, oW kd gW 0 0)), (kd, .inl (cK, 10, .inl (fun _ => 0))), (sg, .inr (7, oS w sn gS 0)), (sn, .inl (cS, 40, .inr (.inl (fun _ => 0)))), (ro, .inr (6, oR w sg cu sp gR 0 0)), (cu, .inr (8, oB c1 gB1)), (c1, .inl (cC1, 10, .inl (fun _ => 0))), (sp, .inr (8, oB c2 gB2)), (c2, .inl (cC2, 10, .inl (fun _ => 0))), (tr, .inr (9, oT w sg ro gT 0 0 0 0)), (kdM, .inl (ckM, 10, .inl (fun _ => 0))), (fa, .inl (cf, 10, .inl (fun _ => 0))), (gw, .inl (cg, 10, .inl (fun _ => 0))), (ou, .inl (cO, 1, .inr (.inl (fun _ => 0)))), (m0, .inr (12, mM kdM gw fa gM 0 0 0 0 0 0 0 0 1))] H1191 := hP
      have hD : va_D A [(h0, .inr (11, oX w sg ro tr gX)), (w, .inr (10, oW kd gW 0 0)), (kd, .inl (cK, 10, .inl (fun _ => 0))), (sg, .inr (7, oS w sn gS 0)), (sn, .inl (cS, 40, .inr (.inl (fun _ => 0)))), (ro, .inr (6, oR w sg cu sp gR 0 0)), (cu, .inr (8, oB c1 gB1)), (c1, .inl (cC1, 10, .inl (fun _ => 0))), (sp, .inr (8, oB c2 gB2)), (c2, .inl (cC2, 10, .inl (fun _ => 0))), (tr, .inr (9, oT w sg ro gT 0 0 0 0)), (kdM, .inl (ckM, 10, .inl (fun _ => 0))), (fa, .inl (cf, 10, .inl (fun _ => 0))), (gw, .inl (cg, 10, .inl (fun _ => 0))), (ou, .inl (cO, 1, .inr (.inl (fun _ => 0)))), (m0, .inr (12, mM kdM gw fa gM 0 0 0 0 0 0 0 0 1))] := hD
      subst hw
      refine lv_istore (lv' := [(6, .int 0), (5, .int 1), (4, .int 0), (3, .ref ou), (2, .ref m0), (1, .ref h0), (0, .ref b)]) hx hb dL_law_900 hl (by decide) rfl (fun ls hl => ?_)
      refine lv_aload_n hx hb dL_law_902 rfl (lv_at hl 4 rfl) ?_
      have hPc := hP.sub (ws' := [(m0, .inr (12, mM kdM gw fa gM 0 0 0 0 0 0 0 0 1))]) [15] rfl
      have hDc := hD.sub (ws' := [(m0, .inr (12, mM kdM gw fa gM 0 0 0 0 0 0 0 0 1))]) [15] (by decide) rfl
      have hKc := hK.sub (tys' := []) [] rfl
      have hFc := roF hS hA
      refine va_calli (va_runV (As := []) (rest := []) ⟨hx, hb, hml, hown, hts⟩ (cu_X12_thrown l dC dI H1191.size m0 kdM gw fa gM 1 0 0) (cwV 0 hts (gV u_1392 u_1393 u_1394 u_14 u_1395) rfl rfl rfl (by decide +kernel) ⟨Nat.le_of_ble_eq_true rfl, Nat.le_of_ble_eq_true rfl⟩) ⟨gP_blind, va_recv hKc hPc (ci := 12) (q0 := 0) rfl rfl, gP_call hPc hKc hDc hE⟩ rfl rfl hl.1 rfl (lv_room (Nat.le_of_ble_eq_true rfl)) dL_law_903 ⟨(Nat.le_of_ble_eq_true rfl), (Nat.le_of_ble_eq_true rfl)⟩) hS (fun q _ h => hFc q h) hFc (fun r1195 u1193 t9 H1194 locs ht hvm hw hB hz1 hk1 hS => ?_)
      have hP := roP hP hk1
      subst hw
      refine lv_iload hx hb dL_law_906 (lv_at hl 1 rfl) ?_
      refine lv_icmp_eq (tgt := 913) hx hb dL_law_908 (by decide) (fun _ => ?_) (fun h9 => absurd (by decide) h9)
      refine lv_iload hx hb dL_law_913 (lv_at hl 1 rfl) ?_
      refine lv_if_ne (tgt := 930) hx hb dL_law_915 (by decide) (fun _ => ?_) (fun h9 => absurd h9 (by decide))
      refine lv_goto (tgt := 1877) hx hb dL_law_930 (by decide) ?_
      refine W.widen (k := 600002) (n := 7302232) (Nat.le_of_ble_eq_true rfl) (Nat.le_of_ble_eq_true rfl) ?_
      exact law_tail hfl hx hb hr hml hown hts hX hbl hlocks hE hZ hA hbA hAo hL8 hS (lv_sub hl [6, 2] rfl)
    · refine lv_iconst (v := 1) hx hb dL_law_892 (by decide) ?_
      refine lv_goto (tgt := 897) hx hb dL_law_893 (by decide) ?_
      have hPc := hP.sub (ws' := [(m0, .inr (12, mM kdM gw fa gM 0 0 0 0 0 0 0 0 0))]) [11] rfl
      have hDc := hD.sub (ws' := [(m0, .inr (12, mM kdM gw fa gM 0 0 0 0 0 0 0 0 0))]) [11] (by decide) rfl
      have hKc := hK.sub (tys' := []) [] rfl
      have hFc := va_free (wc := [(m0, .inr (12, mM kdM gw fa gM 0 0 0 0 0 0 0 0 0))]) hD hS hA [11] rfl
      refine va_calli (va_runV (As := [.int (xs (1 : Int32).toNatClampNeg), .int (xs (2 : Int32).toNatClampNeg), .int (xs (3 : Int32).toNatClampNeg), .int (xs (4 : Int32).toNatClampNeg), .int (xs (5 : Int32).toNatClampNeg), .int (xs (6 : Int32).toNatClampNeg), .int 1]) (rest := []) ⟨hx, hb, hml, hown, hts⟩ (c_X12_rule l dC dI H1180.size m0 kdM gw fa gM 0 (xs (1 : Int32).toNatClampNeg) (xs (2 : Int32).toNatClampNeg) (xs (3 : Int32).toNatClampNeg) (xs (4 : Int32).toNatClampNeg) (xs (5 : Int32).toNatClampNeg) (xs (6 : Int32).toNatClampNeg) 1) (cwV 7 hts (gV u_1502 u_1503 u_1504 u_14 u_1505) rfl rfl rfl (by decide +kernel) ⟨Nat.le_of_ble_eq_true rfl, Nat.le_of_ble_eq_true rfl⟩) ⟨gP_blind, va_recv hKc hPc (ci := 12) (q0 := 0) rfl rfl, gP_call hPc hKc hDc hE⟩ rfl rfl hl.1 rfl (lv_room (Nat.le_of_ble_eq_true rfl)) dL_law_897 ⟨(Nat.le_of_ble_eq_true rfl), (Nat.le_of_ble_eq_true rfl)⟩) hS (fun q _ h => hFc q h) hFc (fun r1198 u1196 t9 H1197 locs ht hvm hw hB hz1 hk1 hS => ?_)
      obtain ⟨hP1, hK1, hD1⟩ := hB
      rw [ht] at hP1
      have hK1 := va_K.moved hvm.symm hK1
      obtain ⟨hP, hD⟩ := va_join (wr := [(h0, .inr (11, oX w sg ro tr gX)), (w, .inr (10, oW kd gW 0 0)), (kd, .inl (cK, 10, .inl (fun _ => 0))), (sg, .inr (7, oS w sn gS 0)), (sn, .inl (cS, 40, .inr (.inl (fun _ => 0)))), (ro, .inr (6, oR w sg cu sp gR 0 0)), (cu, .inr (8, oB c1 gB1)), (c1, .inl (cC1, 10, .inl (fun _ => 0))), (sp, .inr (8, oB c2 gB2)), (c2, .inl (cC2, 10, .inl (fun _ => 0))), (tr, .inr (9, oT w sg ro gT 0 0 0 0)), (kdM, .inl (ckM, 10, .inl (fun _ => 0))), (fa, .inl (cf, 10, .inl (fun _ => 0))), (gw, .inl (cg, 10, .inl (fun _ => 0))), (ou, .inl (cO, 1, .inr (.inl (fun _ => 0))))]) (w1 := [(m0, .inr (12, mM kdM gw fa gM 0 0 0 0 0 0 0 0 1))]) hP hD [11] [0, 1, 2, 3, 4, 5, 6, 7, 8, 9, 10, 12, 13, 14, 15] rfl rfl (by decide) (by decide) hk1 hFc hP1 hD1
      have hK := (hK.sub (tys' := [(cK, .int), (cS, .long), (cC1, .int), (cC2, .int), (ckM, .int), (cf, .int), (cg, .int), (cO, .long)]) [0, 1, 2, 3, 4, 5, 6, 7] rfl).app hK1
      have hK : va_K (dC, dI) vwCl [(cK, .int), (cS, .long), (cC1, .int), (cC2, .int), (ckM, .int), (cf, .int), (cg, .int), (cO, .long)] s := hK
      have hP : va_P (dC, dI) vwCl [(h0, .inr (11, oX w sg ro tr gX)), (w, .inr (10, oW kd gW 0 0)), (kd, .inl (cK, 10, .inl (fun _ => 0))), (sg, .inr (7, oS w sn gS 0)), (sn, .inl (cS, 40, .inr (.inl (fun _ => 0)))), (ro, .inr (6, oR w sg cu sp gR 0 0)), (cu, .inr (8, oB c1 gB1)), (c1, .inl (cC1, 10, .inl (fun _ => 0))), (sp, .inr (8, oB c2 gB2)), (c2, .inl (cC2, 10, .inl (fun _ => 0))), (tr, .inr (9, oT w sg ro gT 0 0 0 0)), (kdM, .inl (ckM, 10, .inl (fun _ => 0))), (fa, .inl (cf, 10, .inl (fun _ => 0))), (gw, .inl (cg, 10, .inl (fun _ => 0))), (ou, .inl (cO, 1, .inr (.inl (fun _ => 0)))), (m0, .inr (12, mM kdM gw fa gM 0 0 0 0 0 0 0 0 1))] H1197 := hP
      have hD : va_D A [(h0, .inr (11, oX w sg ro tr gX)), (w, .inr (10, oW kd gW 0 0)), (kd, .inl (cK, 10, .inl (fun _ => 0))), (sg, .inr (7, oS w sn gS 0)), (sn, .inl (cS, 40, .inr (.inl (fun _ => 0)))), (ro, .inr (6, oR w sg cu sp gR 0 0)), (cu, .inr (8, oB c1 gB1)), (c1, .inl (cC1, 10, .inl (fun _ => 0))), (sp, .inr (8, oB c2 gB2)), (c2, .inl (cC2, 10, .inl (fun _ => 0))), (tr, .inr (9, oT w sg ro gT 0 0 0 0)), (kdM, .inl (ckM, 10, .inl (fun _ => 0))), (fa, .inl (cf, 10, .inl (fun _ => 0))), (gw, .inl (cg, 10, .inl (fun _ => 0))), (ou, .inl (cO, 1, .inr (.inl (fun _ => 0)))), (m0, .inr (12, mM kdM gw fa gM 0 0 0 0 0 0 0 0 1))] := hD
      subst hw
      refine lv_istore (lv' := [(6, .int 0), (5, .int 1), (4, .int 0), (3, .ref ou), (2, .ref m0), (1, .ref h0), (0, .ref b)]) hx hb dL_law_900 hl (by decide) rfl (fun ls hl => ?_)
      refine lv_aload_n hx hb dL_law_902 rfl (lv_at hl 4 rfl) ?_
      have hPc := hP.sub (ws' := [(m0, .inr (12, mM kdM gw fa gM 0 0 0 0 0 0 0 0 1))]) [15] rfl
      have hDc := hD.sub (ws' := [(m0, .inr (12, mM kdM gw fa gM 0 0 0 0 0 0 0 0 1))]) [15] (by decide) rfl
      have hKc := hK.sub (tys' := []) [] rfl
      have hFc := roF hS hA
      refine va_calli (va_runV (As := []) (rest := []) ⟨hx, hb, hml, hown, hts⟩ (cu_X12_thrown l dC dI H1197.size m0 kdM gw fa gM 1 0 0) (cwV 0 hts (gV u_1392 u_1393 u_1394 u_14 u_1395) rfl rfl rfl (by decide +kernel) ⟨Nat.le_of_ble_eq_true rfl, Nat.le_of_ble_eq_true rfl⟩) ⟨gP_blind, va_recv hKc hPc (ci := 12) (q0 := 0) rfl rfl, gP_call hPc hKc hDc hE⟩ rfl rfl hl.1 rfl (lv_room (Nat.le_of_ble_eq_true rfl)) dL_law_903 ⟨(Nat.le_of_ble_eq_true rfl), (Nat.le_of_ble_eq_true rfl)⟩) hS (fun q _ h => hFc q h) hFc (fun r1201 u1199 t9 H1200 locs ht hvm hw hB hz1 hk1 hS => ?_)
      have hP := roP hP hk1
      subst hw
      refine lv_iload hx hb dL_law_906 (lv_at hl 1 rfl) ?_
      refine lv_icmp_eq (tgt := 913) hx hb dL_law_908 (by decide) (fun _ => ?_) (fun h9 => absurd (by decide) h9)
      refine lv_iload hx hb dL_law_913 (lv_at hl 1 rfl) ?_
      refine lv_if_ne (tgt := 930) hx hb dL_law_915 (by decide) (fun _ => ?_) (fun h9 => absurd h9 (by decide))
      refine lv_goto (tgt := 1877) hx hb dL_law_930 (by decide) ?_
      refine W.widen (k := 600002) (n := 7302232) (Nat.le_of_ble_eq_true rfl) (Nat.le_of_ble_eq_true rfl) ?_
      exact law_tail hfl hx hb hr hml hown hts hX hbl hlocks hE hZ hA hbA hAo hL8 hS (lv_sub hl [6, 2] rfl)
set_option maxHeartbeats 8000000 in
set_option maxRecDepth 100000 in
theorem law_c10 {p : Program} {l : Launch} {e : Env} {s : State} {m : MethodId} {below : List Frame} {meth : Method} {c : Code} {dC : Nat → ClassId} {dI : Nat → Nat → Nat} {A : Nat → Prop} {b L : Nat} {xs : Nat → Int32} {h0 : Nat} {w : Nat} {kd : Nat} {cK : ClassId} {gW : Nat → Nat} {sg : Nat} {sn : Nat} {cS : ClassId} {gS : Nat → Nat} {ro : Nat} {cu : Nat} {c1 : Nat} {cC1 : ClassId} {gB1 : Nat → Nat} {sp : Nat} {c2 : Nat} {cC2 : ClassId} {gB2 : Nat → Nat} {gR : Nat → Nat} {tr : Nat} {gT : Nat → Nat} {gX : Nat → Nat} {m0 : Nat} {kdM : Nat} {ckM : ClassId} {fa : Nat} {cf : ClassId} {gw : Nat} {cg : ClassId} {gM : Nat → Nat} {ou : Nat} {cO : ClassId} (hfl : l.stackTraces = false) (hx : p.tables.exec = Jvm.exec) (hb : c.code = code) (hr : meth.sig.returnType = ret) (hml : c.maxLocals = 7) (hown : s.vm.findClass RL = some m.cls) (hts : ∀ w ∈ gU, w.before #[Value.ref b] s = true) (hX : va_X b L xs s s.heap) (hbl : b < s.heap.size) (hlocks : meth.locks = false) (hE : gEnv s) (hZ : gZ A s) (hA : ∀ q : Nat, s.heap.size ≤ q → A q) (hbA : ¬ A b) (hAo : ∀ q : Nat, A q → s.heap.size ≤ q) (hL8 : L = 8) : ∀ (H : Heap) (locs : List Loc), va_K (dC, dI) vwCl [(cK, .int), (cS, .long), (cC1, .int), (cC2, .int), (ckM, .int), (cf, .int), (cg, .int), (cO, .long)] s → va_P (dC, dI) vwCl [(h0, .inr (11, oX w sg ro tr gX)), (w, .inr (10, oW kd gW 0 0)), (kd, .inl (cK, 10, .inl (fun _ => 0))), (sg, .inr (7, oS w sn gS 0)), (sn, .inl (cS, 40, .inr (.inl (fun _ => 0)))), (ro, .inr (6, oR w sg cu sp gR 0 0)), (cu, .inr (8, oB c1 gB1)), (c1, .inl (cC1, 10, .inl (fun _ => 0))), (sp, .inr (8, oB c2 gB2)), (c2, .inl (cC2, 10, .inl (fun _ => 0))), (tr, .inr (9, oT w sg ro gT 0 0 0 0)), (m0, .inr (12, mM kdM gw fa gM 0 0 0 0 0 0 0 0 0)), (kdM, .inl (ckM, 10, .inl (fun _ => 0))), (fa, .inl (cf, 10, .inl (fun _ => 0))), (gw, .inl (cg, 10, .inl (fun _ => 0))), (ou, .inl (cO, 1, .inr (.inl (fun _ => 0))))] H → va_D A [(h0, .inr (11, oX w sg ro tr gX)), (w, .inr (10, oW kd gW 0 0)), (kd, .inl (cK, 10, .inl (fun _ => 0))), (sg, .inr (7, oS w sn gS 0)), (sn, .inl (cS, 40, .inr (.inl (fun _ => 0)))), (ro, .inr (6, oR w sg cu sp gR 0 0)), (cu, .inr (8, oB c1 gB1)), (c1, .inl (cC1, 10, .inl (fun _ => 0))), (sp, .inr (8, oB c2 gB2)), (c2, .inl (cC2, 10, .inl (fun _ => 0))), (tr, .inr (9, oT w sg ro gT 0 0 0 0)), (m0, .inr (12, mM kdM gw fa gM 0 0 0 0 0 0 0 0 0)), (kdM, .inl (ckM, 10, .inl (fun _ => 0))), (fa, .inl (cf, 10, .inl (fun _ => 0))), (gw, .inl (cg, 10, .inl (fun _ => 0))), (ou, .inl (cO, 1, .inr (.inl (fun _ => 0))))] → va_S A s.heap H locs → ∀ ls : Array Slot, lv_has ls 7 [(4, .int 0), (3, .ref ou), (2, .ref m0), (1, .ref h0), (0, .ref b)] → W p l e room_1 s m #[Value.ref b] below meth c H locs 441 44110 (lw_Z below #[Value.ref b] s) (F0 m 933 ls []) := by
  intro H locs hK hP hD hS ls hl
  refine lv_aload_n hx hb dL_law_933 rfl (lv_at hl 3 rfl) ?_
  refine lv_aload_n hx hb dL_law_934 rfl (lv_at hl 4 rfl) ?_
  refine lv_iload hx hb dL_law_935 (lv_at hl 0 rfl) ?_
  refine lv_iconst (v := 1) hx hb dL_law_937 (by decide) ?_
  refine lv_iadd hx hb dL_law_938 ?_
  refine lv_topi (fun z1202 ez1202 => ?_)
  obtain rfl : z1202 = 1 := ez1202.trans (by decide)
  refine va_sld hx hb hX hbl hbA hS (by rw [hL8]; unfold vp_in; decide) dL_law_939 ?_
  refine lv_aload_n hx hb dL_law_940 rfl (lv_at hl 4 rfl) ?_
  refine lv_iload hx hb dL_law_941 (lv_at hl 0 rfl) ?_
  refine lv_iconst (v := 2) hx hb dL_law_943 (by decide) ?_
  refine lv_iadd hx hb dL_law_944 ?_
  refine lv_topi (fun z1203 ez1203 => ?_)
  obtain rfl : z1203 = 2 := ez1203.trans (by decide)
  refine va_sld hx hb hX hbl hbA hS (by rw [hL8]; unfold vp_in; decide) dL_law_945 ?_
  refine lv_if_eq (tgt := 953) hx hb dL_law_946 (by decide) (fun h1204 => ?_) (fun h1204 => ?_)
  · refine lv_iconst (v := 0) hx hb dL_law_953 (by decide) ?_
    refine lv_aload_n hx hb dL_law_954 rfl (lv_at hl 1 rfl) ?_
    have hPc := hP.sub (ws' := [(h0, .inr (11, oX w sg ro tr gX)), (w, .inr (10, oW kd gW 0 0))]) [0, 1] rfl
    have hDc := hD.sub (ws' := [(h0, .inr (11, oX w sg ro tr gX)), (w, .inr (10, oW kd gW 0 0))]) [0, 1] (by decide) rfl
    have hKc := hK.sub (tys' := []) [] rfl
    have hFc := roF hS hA
    refine va_calli (vx_runSW (As := [.ref h0, .int (xs (1 : Int32).toNatClampNeg), .int 0, .ref ou]) (rest := []) ⟨hx, hb, hml, hown, hts⟩ (c_L_watch l dC dI H.size hfl h0 ou w sg ro tr gX kd gW (xs (1 : Int32).toNatClampNeg) 0) (vx_cwSW 4 hts (gSt u_819 u_820 u_0 u_821) rfl rfl rfl (by decide +kernel) ⟨Nat.le_of_ble_eq_true rfl, Nat.le_of_ble_eq_true rfl⟩) ⟨gPZ_blind, gPZ_call hPc hKc hDc hE hZ hS hFc⟩ rfl rfl hl.1 rfl (lv_room (Nat.le_of_ble_eq_true rfl)) dL_law_955 ⟨(Nat.le_of_ble_eq_true rfl), (Nat.le_of_ble_eq_true rfl)⟩) hS (fun q _ h => hFc q h) hFc (fun r1207 u1205 t9 H1206 locs ht hvm hw hB hz1 hk1 hS => ?_)
    have hP := roP hP hk1
    subst hw
    refine W.widen (k := 442) (n := 44116) (Nat.le_of_ble_eq_true rfl) (Nat.le_of_ble_eq_true rfl) ?_
    refine lv_istore (lv' := [(5, .int 1), (4, .int 0), (3, .ref ou), (2, .ref m0), (1, .ref h0), (0, .ref b)]) hx hb dL_law_958 hl (by decide) rfl (fun ls hl => ?_)
    refine lv_aload_n hx hb dL_law_960 rfl (lv_at hl 3 rfl) ?_
    refine lv_aload_n hx hb dL_law_961 rfl (lv_at hl 5 rfl) ?_
    refine lv_iload hx hb dL_law_962 (lv_at hl 1 rfl) ?_
    refine lv_iconst (v := 1) hx hb dL_law_964 (by decide) ?_
    refine lv_iadd hx hb dL_law_965 ?_
    refine lv_topi (fun z1208 ez1208 => ?_)
    obtain rfl : z1208 = 1 := ez1208.trans (by decide)
    refine va_sld hx hb hX hbl hbA hS (by rw [hL8]; unfold vp_in; decide) dL_law_966 ?_
    refine lv_aload_n hx hb dL_law_967 rfl (lv_at hl 5 rfl) ?_
    refine lv_iload hx hb dL_law_968 (lv_at hl 1 rfl) ?_
    refine lv_iconst (v := 2) hx hb dL_law_970 (by decide) ?_
    refine lv_iadd hx hb dL_law_971 ?_
    refine lv_topi (fun z1209 ez1209 => ?_)
    obtain rfl : z1209 = 2 := ez1209.trans (by decide)
    refine va_sld hx hb hX hbl hbA hS (by rw [hL8]; unfold vp_in; decide) dL_law_972 ?_
    refine lv_if_eq (tgt := 980) hx hb dL_law_973 (by decide) (fun h1210 => ?_) (fun h1210 => ?_)
    · refine lv_iconst (v := 0) hx hb dL_law_980 (by decide) ?_
      have hPc := hP.sub (ws' := [(m0, .inr (12, mM kdM gw fa gM 0 0 0 0 0 0 0 0 0))]) [11] rfl
      have hDc := hD.sub (ws' := [(m0, .inr (12, mM kdM gw fa gM 0 0 0 0 0 0 0 0 0))]) [11] (by decide) rfl
      have hKc := hK.sub (tys' := []) [] rfl
      have hFc := va_free (wc := [(m0, .inr (12, mM kdM gw fa gM 0 0 0 0 0 0 0 0 0))]) hD hS hA [11] rfl
      refine va_calli (va_runV (As := [.int (xs (1 : Int32).toNatClampNeg), .int 0]) (rest := []) ⟨hx, hb, hml, hown, hts⟩ (c_X12_watch l dC dI H1206.size m0 kdM gw fa gM 0 (xs (1 : Int32).toNatClampNeg) 0) (cwV 2 hts (gV u_1506 u_1507 u_1508 u_14 u_1509) rfl rfl rfl (by decide +kernel) ⟨Nat.le_of_ble_eq_true rfl, Nat.le_of_ble_eq_true rfl⟩) ⟨gP_blind, va_recv hKc hPc (ci := 12) (q0 := 0) rfl rfl, gP_call hPc hKc hDc hE⟩ rfl rfl hl.1 rfl (lv_room (Nat.le_of_ble_eq_true rfl)) dL_law_981 ⟨(Nat.le_of_ble_eq_true rfl), (Nat.le_of_ble_eq_true rfl)⟩) hS (fun q _ h => hFc q h) hFc (fun r1213 u1211 t9 H1212 locs ht hvm hw hB hz1 hk1 hS => ?_)
      obtain ⟨hP1, hK1, hD1⟩ := hB
      rw [ht] at hP1
      have hK1 := va_K.moved hvm.symm hK1
      obtain ⟨hP, hD⟩ := va_join (wr := [(h0, .inr (11, oX w sg ro tr gX)), (w, .inr (10, oW kd gW 0 0)), (kd, .inl (cK, 10, .inl (fun _ => 0))), (sg, .inr (7, oS w sn gS 0)), (sn, .inl (cS, 40, .inr (.inl (fun _ => 0)))), (ro, .inr (6, oR w sg cu sp gR 0 0)), (cu, .inr (8, oB c1 gB1)), (c1, .inl (cC1, 10, .inl (fun _ => 0))), (sp, .inr (8, oB c2 gB2)), (c2, .inl (cC2, 10, .inl (fun _ => 0))), (tr, .inr (9, oT w sg ro gT 0 0 0 0)), (kdM, .inl (ckM, 10, .inl (fun _ => 0))), (fa, .inl (cf, 10, .inl (fun _ => 0))), (gw, .inl (cg, 10, .inl (fun _ => 0))), (ou, .inl (cO, 1, .inr (.inl (fun _ => 0))))]) (w1 := [(m0, .inr (12, mM kdM gw fa gM 0 0 0 0 0 0 0 0 1))]) hP hD [11] [0, 1, 2, 3, 4, 5, 6, 7, 8, 9, 10, 12, 13, 14, 15] rfl rfl (by decide) (by decide) hk1 hFc hP1 hD1
      have hK := (hK.sub (tys' := [(cK, .int), (cS, .long), (cC1, .int), (cC2, .int), (ckM, .int), (cf, .int), (cg, .int), (cO, .long)]) [0, 1, 2, 3, 4, 5, 6, 7] rfl).app hK1
      have hK : va_K (dC, dI) vwCl [(cK, .int), (cS, .long), (cC1, .int), (cC2, .int), (ckM, .int), (cf, .int), (cg, .int), (cO, .long)] s := hK
      have hP : va_P (dC, dI) vwCl [(h0, .inr (11, oX w sg ro tr gX)), (w, .inr (10, oW kd gW 0 0)), (kd, .inl (cK, 10, .inl (fun _ => 0))), (sg, .inr (7, oS w sn gS 0)), (sn, .inl (cS, 40, .inr (.inl (fun _ => 0)))), (ro, .inr (6, oR w sg cu sp gR 0 0)), (cu, .inr (8, oB c1 gB1)), (c1, .inl (cC1, 10, .inl (fun _ => 0))), (sp, .inr (8, oB c2 gB2)), (c2, .inl (cC2, 10, .inl (fun _ => 0))), (tr, .inr (9, oT w sg ro gT 0 0 0 0)), (kdM, .inl (ckM, 10, .inl (fun _ => 0))), (fa, .inl (cf, 10, .inl (fun _ => 0))), (gw, .inl (cg, 10, .inl (fun _ => 0))), (ou, .inl (cO, 1, .inr (.inl (fun _ => 0)))), (m0, .inr (12, mM kdM gw fa gM 0 0 0 0 0 0 0 0 1))] H1212 := hP
      have hD : va_D A [(h0, .inr (11, oX w sg ro tr gX)), (w, .inr (10, oW kd gW 0 0)), (kd, .inl (cK, 10, .inl (fun _ => 0))), (sg, .inr (7, oS w sn gS 0)), (sn, .inl (cS, 40, .inr (.inl (fun _ => 0)))), (ro, .inr (6, oR w sg cu sp gR 0 0)), (cu, .inr (8, oB c1 gB1)), (c1, .inl (cC1, 10, .inl (fun _ => 0))), (sp, .inr (8, oB c2 gB2)), (c2, .inl (cC2, 10, .inl (fun _ => 0))), (tr, .inr (9, oT w sg ro gT 0 0 0 0)), (kdM, .inl (ckM, 10, .inl (fun _ => 0))), (fa, .inl (cf, 10, .inl (fun _ => 0))), (gw, .inl (cg, 10, .inl (fun _ => 0))), (ou, .inl (cO, 1, .inr (.inl (fun _ => 0)))), (m0, .inr (12, mM kdM gw fa gM 0 0 0 0 0 0 0 0 1))] := hD
      subst hw
      refine lv_istore (lv' := [(6, .int 0), (5, .int 1), (4, .int 0), (3, .ref ou), (2, .ref m0), (1, .ref h0), (0, .ref b)]) hx hb dL_law_984 hl (by decide) rfl (fun ls hl => ?_)
      refine lv_aload_n hx hb dL_law_986 rfl (lv_at hl 4 rfl) ?_
      have hPc := hP.sub (ws' := [(m0, .inr (12, mM kdM gw fa gM 0 0 0 0 0 0 0 0 1))]) [15] rfl
      have hDc := hD.sub (ws' := [(m0, .inr (12, mM kdM gw fa gM 0 0 0 0 0 0 0 0 1))]) [15] (by decide) rfl
      have hKc := hK.sub (tys' := []) [] rfl
      have hFc := roF hS hA
      refine va_calli (va_runV (As := []) (rest := []) ⟨hx, hb, hml, hown, hts⟩ (cu_X12_thrown l dC dI H1212.size m0 kdM gw fa gM 1 0 0) (cwV 0 hts (gV u_1392 u_1393 u_1394 u_14 u_1395) rfl rfl rfl (by decide +kernel) ⟨Nat.le_of_ble_eq_true rfl, Nat.le_of_ble_eq_true rfl⟩) ⟨gP_blind, va_recv hKc hPc (ci := 12) (q0 := 0) rfl rfl, gP_call hPc hKc hDc hE⟩ rfl rfl hl.1 rfl (lv_room (Nat.le_of_ble_eq_true rfl)) dL_law_987 ⟨(Nat.le_of_ble_eq_true rfl), (Nat.le_of_ble_eq_true rfl)⟩) hS (fun q _ h => hFc q h) hFc (fun r1216 u1214 t9 H1215 locs ht hvm hw hB hz1 hk1 hS => ?_)
      have hP := roP hP hk1
      subst hw
      refine lv_iload hx hb dL_law_990 (lv_at hl 1 rfl) ?_
      refine lv_icmp_eq (tgt := 997) hx hb dL_law_992 (by decide) (fun _ => ?_) (fun h9 => absurd (by decide) h9)
      refine lv_iload hx hb dL_law_997 (lv_at hl 1 rfl) ?_
      refine lv_if_ne (tgt := 1021) hx hb dL_law_999 (by decide) (fun _ => ?_) (fun h9 => absurd h9 (by decide))
      refine lv_goto (tgt := 1877) hx hb dL_law_1021 (by decide) ?_
      refine W.widen (k := 600002) (n := 7302232) (Nat.le_of_ble_eq_true rfl) (Nat.le_of_ble_eq_true rfl) ?_
      exact law_tail hfl hx hb hr hml hown hts hX hbl hlocks hE hZ hA hbA hAo hL8 hS (lv_sub hl [6, 2] rfl)
    · refine lv_iconst (v := 1) hx hb dL_law_976 (by decide) ?_
      refine lv_goto (tgt := 981) hx hb dL_law_977 (by decide) ?_
      have hPc := hP.sub (ws' := [(m0, .inr (12, mM kdM gw fa gM 0 0 0 0 0 0 0 0 0))]) [11] rfl
      have hDc := hD.sub (ws' := [(m0, .inr (12, mM kdM gw fa gM 0 0 0 0 0 0 0 0 0))]) [11] (by decide) rfl
      have hKc := hK.sub (tys' := []) [] rfl
      have hFc := va_free (wc := [(m0, .inr (12, mM kdM gw fa gM 0 0 0 0 0 0 0 0 0))]) hD hS hA [11] rfl
      refine va_calli (va_runV (As := [.int (xs (1 : Int32).toNatClampNeg), .int 1]) (rest := []) ⟨hx, hb, hml, hown, hts⟩ (c_X12_watch l dC dI H1206.size m0 kdM gw fa gM 0 (xs (1 : Int32).toNatClampNeg) 1) (cwV 2 hts (gV u_1506 u_1507 u_1508 u_14 u_1509) rfl rfl rfl (by decide +kernel) ⟨Nat.le_of_ble_eq_true rfl, Nat.le_of_ble_eq_true rfl⟩) ⟨gP_blind, va_recv hKc hPc (ci := 12) (q0 := 0) rfl rfl, gP_call hPc hKc hDc hE⟩ rfl rfl hl.1 rfl (lv_room (Nat.le_of_ble_eq_true rfl)) dL_law_981 ⟨(Nat.le_of_ble_eq_true rfl), (Nat.le_of_ble_eq_true rfl)⟩) hS (fun q _ h => hFc q h) hFc (fun r1219 u1217 t9 H1218 locs ht hvm hw hB hz1 hk1 hS => ?_)
      obtain ⟨hP1, hK1, hD1⟩ := hB
      rw [ht] at hP1
      have hK1 := va_K.moved hvm.symm hK1
      obtain ⟨hP, hD⟩ := va_join (wr := [(h0, .inr (11, oX w sg ro tr gX)), (w, .inr (10, oW kd gW 0 0)), (kd, .inl (cK, 10, .inl (fun _ => 0))), (sg, .inr (7, oS w sn gS 0)), (sn, .inl (cS, 40, .inr (.inl (fun _ => 0)))), (ro, .inr (6, oR w sg cu sp gR 0 0)), (cu, .inr (8, oB c1 gB1)), (c1, .inl (cC1, 10, .inl (fun _ => 0))), (sp, .inr (8, oB c2 gB2)), (c2, .inl (cC2, 10, .inl (fun _ => 0))), (tr, .inr (9, oT w sg ro gT 0 0 0 0)), (kdM, .inl (ckM, 10, .inl (fun _ => 0))), (fa, .inl (cf, 10, .inl (fun _ => 0))), (gw, .inl (cg, 10, .inl (fun _ => 0))), (ou, .inl (cO, 1, .inr (.inl (fun _ => 0))))]) (w1 := [(m0, .inr (12, mM kdM gw fa gM 0 0 0 0 0 0 0 0 1))]) hP hD [11] [0, 1, 2, 3, 4, 5, 6, 7, 8, 9, 10, 12, 13, 14, 15] rfl rfl (by decide) (by decide) hk1 hFc hP1 hD1
      have hK := (hK.sub (tys' := [(cK, .int), (cS, .long), (cC1, .int), (cC2, .int), (ckM, .int), (cf, .int), (cg, .int), (cO, .long)]) [0, 1, 2, 3, 4, 5, 6, 7] rfl).app hK1
      have hK : va_K (dC, dI) vwCl [(cK, .int), (cS, .long), (cC1, .int), (cC2, .int), (ckM, .int), (cf, .int), (cg, .int), (cO, .long)] s := hK
      have hP : va_P (dC, dI) vwCl [(h0, .inr (11, oX w sg ro tr gX)), (w, .inr (10, oW kd gW 0 0)), (kd, .inl (cK, 10, .inl (fun _ => 0))), (sg, .inr (7, oS w sn gS 0)), (sn, .inl (cS, 40, .inr (.inl (fun _ => 0)))), (ro, .inr (6, oR w sg cu sp gR 0 0)), (cu, .inr (8, oB c1 gB1)), (c1, .inl (cC1, 10, .inl (fun _ => 0))), (sp, .inr (8, oB c2 gB2)), (c2, .inl (cC2, 10, .inl (fun _ => 0))), (tr, .inr (9, oT w sg ro gT 0 0 0 0)), (kdM, .inl (ckM, 10, .inl (fun _ => 0))), (fa, .inl (cf, 10, .inl (fun _ => 0))), (gw, .inl (cg, 10, .inl (fun _ => 0))), (ou, .inl (cO, 1, .inr (.inl (fun _ => 0)))), (m0, .inr (12, mM kdM gw fa gM 0 0 0 0 0 0 0 0 1))] H1218 := hP
      have hD : va_D A [(h0, .inr (11, oX w sg ro tr gX)), (w, .inr (10, oW kd gW 0 0)), (kd, .inl (cK, 10, .inl (fun _ => 0))), (sg, .inr (7, oS w sn gS 0)), (sn, .inl (cS, 40, .inr (.inl (fun _ => 0)))), (ro, .inr (6, oR w sg cu sp gR 0 0)), (cu, .inr (8, oB c1 gB1)), (c1, .inl (cC1, 10, .inl (fun _ => 0))), (sp, .inr (8, oB c2 gB2)), (c2, .inl (cC2, 10, .inl (fun _ => 0))), (tr, .inr (9, oT w sg ro gT 0 0 0 0)), (kdM, .inl (ckM, 10, .inl (fun _ => 0))), (fa, .inl (cf, 10, .inl (fun _ => 0))), (gw, .inl (cg, 10, .inl (fun _ => 0))), (ou, .inl (cO, 1, .inr (.inl (fun _ => 0)))), (m0, .inr (12, mM kdM gw fa gM 0 0 0 0 0 0 0 0 1))] := hD
      subst hw
      refine lv_istore (lv' := [(6, .int 0), (5, .int 1), (4, .int 0), (3, .ref ou), (2, .ref m0), (1, .ref h0), (0, .ref b)]) hx hb dL_law_984 hl (by decide) rfl (fun ls hl => ?_)
      refine lv_aload_n hx hb dL_law_986 rfl (lv_at hl 4 rfl) ?_
      have hPc := hP.sub (ws' := [(m0, .inr (12, mM kdM gw fa gM 0 0 0 0 0 0 0 0 1))]) [15] rfl
      have hDc := hD.sub (ws' := [(m0, .inr (12, mM kdM gw fa gM 0 0 0 0 0 0 0 0 1))]) [15] (by decide) rfl
      have hKc := hK.sub (tys' := []) [] rfl
      have hFc := roF hS hA
      refine va_calli (va_runV (As := []) (rest := []) ⟨hx, hb, hml, hown, hts⟩ (cu_X12_thrown l dC dI H1218.size m0 kdM gw fa gM 1 0 0) (cwV 0 hts (gV u_1392 u_1393 u_1394 u_14 u_1395) rfl rfl rfl (by decide +kernel) ⟨Nat.le_of_ble_eq_true rfl, Nat.le_of_ble_eq_true rfl⟩) ⟨gP_blind, va_recv hKc hPc (ci := 12) (q0 := 0) rfl rfl, gP_call hPc hKc hDc hE⟩ rfl rfl hl.1 rfl (lv_room (Nat.le_of_ble_eq_true rfl)) dL_law_987 ⟨(Nat.le_of_ble_eq_true rfl), (Nat.le_of_ble_eq_true rfl)⟩) hS (fun q _ h => hFc q h) hFc (fun r1222 u1220 t9 H1221 locs ht hvm hw hB hz1 hk1 hS => ?_)
      have hP := roP hP hk1
      subst hw
      refine lv_iload hx hb dL_law_990 (lv_at hl 1 rfl) ?_
      refine lv_icmp_eq (tgt := 997) hx hb dL_law_992 (by decide) (fun _ => ?_) (fun h9 => absurd (by decide) h9)
      refine lv_iload hx hb dL_law_997 (lv_at hl 1 rfl) ?_
      refine lv_if_ne (tgt := 1021) hx hb dL_law_999 (by decide) (fun _ => ?_) (fun h9 => absurd h9 (by decide))
      refine lv_goto (tgt := 1877) hx hb dL_law_1021 (by decide) ?_
      refine W.widen (k := 600002) (n := 7302232) (Nat.le_of_ble_eq_true rfl) (Nat.le_of_ble_eq_true rfl) ?_
      exact law_tail hfl hx hb hr hml hown hts hX hbl hlocks hE hZ hA hbA hAo hL8 hS (lv_sub hl [6, 2] rfl)
  · refine lv_iconst (v := 1) hx hb dL_law_949 (by decide) ?_
    refine lv_goto (tgt := 954) hx hb dL_law_950 (by decide) ?_
    refine lv_aload_n hx hb dL_law_954 rfl (lv_at hl 1 rfl) ?_
    have hPc := hP.sub (ws' := [(h0, .inr (11, oX w sg ro tr gX)), (w, .inr (10, oW kd gW 0 0))]) [0, 1] rfl
    have hDc := hD.sub (ws' := [(h0, .inr (11, oX w sg ro tr gX)), (w, .inr (10, oW kd gW 0 0))]) [0, 1] (by decide) rfl
    have hKc := hK.sub (tys' := []) [] rfl
    have hFc := roF hS hA
    refine va_calli (vx_runSW (As := [.ref h0, .int (xs (1 : Int32).toNatClampNeg), .int 1, .ref ou]) (rest := []) ⟨hx, hb, hml, hown, hts⟩ (c_L_watch l dC dI H.size hfl h0 ou w sg ro tr gX kd gW (xs (1 : Int32).toNatClampNeg) 1) (vx_cwSW 4 hts (gSt u_819 u_820 u_0 u_821) rfl rfl rfl (by decide +kernel) ⟨Nat.le_of_ble_eq_true rfl, Nat.le_of_ble_eq_true rfl⟩) ⟨gPZ_blind, gPZ_call hPc hKc hDc hE hZ hS hFc⟩ rfl rfl hl.1 rfl (lv_room (Nat.le_of_ble_eq_true rfl)) dL_law_955 ⟨(Nat.le_of_ble_eq_true rfl), (Nat.le_of_ble_eq_true rfl)⟩) hS (fun q _ h => hFc q h) hFc (fun r1225 u1223 t9 H1224 locs ht hvm hw hB hz1 hk1 hS => ?_)
    have hP := roP hP hk1
    subst hw
    refine W.widen (k := 442) (n := 44116) (Nat.le_of_ble_eq_true rfl) (Nat.le_of_ble_eq_true rfl) ?_
    refine lv_istore (lv' := [(5, .int 1), (4, .int 0), (3, .ref ou), (2, .ref m0), (1, .ref h0), (0, .ref b)]) hx hb dL_law_958 hl (by decide) rfl (fun ls hl => ?_)
    refine lv_aload_n hx hb dL_law_960 rfl (lv_at hl 3 rfl) ?_
    refine lv_aload_n hx hb dL_law_961 rfl (lv_at hl 5 rfl) ?_
    refine lv_iload hx hb dL_law_962 (lv_at hl 1 rfl) ?_
    refine lv_iconst (v := 1) hx hb dL_law_964 (by decide) ?_
    refine lv_iadd hx hb dL_law_965 ?_
    refine lv_topi (fun z1226 ez1226 => ?_)
    obtain rfl : z1226 = 1 := ez1226.trans (by decide)
    refine va_sld hx hb hX hbl hbA hS (by rw [hL8]; unfold vp_in; decide) dL_law_966 ?_
    refine lv_aload_n hx hb dL_law_967 rfl (lv_at hl 5 rfl) ?_
    refine lv_iload hx hb dL_law_968 (lv_at hl 1 rfl) ?_
    refine lv_iconst (v := 2) hx hb dL_law_970 (by decide) ?_
    refine lv_iadd hx hb dL_law_971 ?_
    refine lv_topi (fun z1227 ez1227 => ?_)
    obtain rfl : z1227 = 2 := ez1227.trans (by decide)
    refine va_sld hx hb hX hbl hbA hS (by rw [hL8]; unfold vp_in; decide) dL_law_972 ?_
    refine lv_if_eq (tgt := 980) hx hb dL_law_973 (by decide) (fun h1228 => ?_) (fun h1228 => ?_)
    · refine lv_iconst (v := 0) hx hb dL_law_980 (by decide) ?_
      have hPc := hP.sub (ws' := [(m0, .inr (12, mM kdM gw fa gM 0 0 0 0 0 0 0 0 0))]) [11] rfl
      have hDc := hD.sub (ws' := [(m0, .inr (12, mM kdM gw fa gM 0 0 0 0 0 0 0 0 0))]) [11] (by decide) rfl
      have hKc := hK.sub (tys' := []) [] rfl
      have hFc := va_free (wc := [(m0, .inr (12, mM kdM gw fa gM 0 0 0 0 0 0 0 0 0))]) hD hS hA [11] rfl
      refine va_calli (va_runV (As := [.int (xs (1 : Int32).toNatClampNeg), .int 0]) (rest := []) ⟨hx, hb, hml, hown, hts⟩ (c_X12_watch l dC dI H1224.size m0 kdM gw fa gM 0 (xs (1 : Int32).toNatClampNeg) 0) (cwV 2 hts (gV u_1506 u_1507 u_1508 u_14 u_1509) rfl rfl rfl (by decide +kernel) ⟨Nat.le_of_ble_eq_true rfl, Nat.le_of_ble_eq_true rfl⟩) ⟨gP_blind, va_recv hKc hPc (ci := 12) (q0 := 0) rfl rfl, gP_call hPc hKc hDc hE⟩ rfl rfl hl.1 rfl (lv_room (Nat.le_of_ble_eq_true rfl)) dL_law_981 ⟨(Nat.le_of_ble_eq_true rfl), (Nat.le_of_ble_eq_true rfl)⟩) hS (fun q _ h => hFc q h) hFc (fun r1231 u1229 t9 H1230 locs ht hvm hw hB hz1 hk1 hS => ?_)
      obtain ⟨hP1, hK1, hD1⟩ := hB
      rw [ht] at hP1
      have hK1 := va_K.moved hvm.symm hK1
      obtain ⟨hP, hD⟩ := va_join (wr := [(h0, .inr (11, oX w sg ro tr gX)), (w, .inr (10, oW kd gW 0 0)), (kd, .inl (cK, 10, .inl (fun _ => 0))), (sg, .inr (7, oS w sn gS 0)), (sn, .inl (cS, 40, .inr (.inl (fun _ => 0)))), (ro, .inr (6, oR w sg cu sp gR 0 0)), (cu, .inr (8, oB c1 gB1)), (c1, .inl (cC1, 10, .inl (fun _ => 0))), (sp, .inr (8, oB c2 gB2)), (c2, .inl (cC2, 10, .inl (fun _ => 0))), (tr, .inr (9, oT w sg ro gT 0 0 0 0)), (kdM, .inl (ckM, 10, .inl (fun _ => 0))), (fa, .inl (cf, 10, .inl (fun _ => 0))), (gw, .inl (cg, 10, .inl (fun _ => 0))), (ou, .inl (cO, 1, .inr (.inl (fun _ => 0))))]) (w1 := [(m0, .inr (12, mM kdM gw fa gM 0 0 0 0 0 0 0 0 1))]) hP hD [11] [0, 1, 2, 3, 4, 5, 6, 7, 8, 9, 10, 12, 13, 14, 15] rfl rfl (by decide) (by decide) hk1 hFc hP1 hD1
      have hK := (hK.sub (tys' := [(cK, .int), (cS, .long), (cC1, .int), (cC2, .int), (ckM, .int), (cf, .int), (cg, .int), (cO, .long)]) [0, 1, 2, 3, 4, 5, 6, 7] rfl).app hK1
      have hK : va_K (dC, dI) vwCl [(cK, .int), (cS, .long), (cC1, .int), (cC2, .int), (ckM, .int), (cf, .int), (cg, .int), (cO, .long)] s := hK
      have hP : va_P (dC, dI) vwCl [(h0, .inr (11, oX w sg ro tr gX)), (w, .inr (10, oW kd gW 0 0)), (kd, .inl (cK, 10, .inl (fun _ => 0))), (sg, .inr (7, oS w sn gS 0)), (sn, .inl (cS, 40, .inr (.inl (fun _ => 0)))), (ro, .inr (6, oR w sg cu sp gR 0 0)), (cu, .inr (8, oB c1 gB1)), (c1, .inl (cC1, 10, .inl (fun _ => 0))), (sp, .inr (8, oB c2 gB2)), (c2, .inl (cC2, 10, .inl (fun _ => 0))), (tr, .inr (9, oT w sg ro gT 0 0 0 0)), (kdM, .inl (ckM, 10, .inl (fun _ => 0))), (fa, .inl (cf, 10, .inl (fun _ => 0))), (gw, .inl (cg, 10, .inl (fun _ => 0))), (ou, .inl (cO, 1, .inr (.inl (fun _ => 0)))), (m0, .inr (12, mM kdM gw fa gM 0 0 0 0 0 0 0 0 1))] H1230 := hP
      have hD : va_D A [(h0, .inr (11, oX w sg ro tr gX)), (w, .inr (10, oW kd gW 0 0)), (kd, .inl (cK, 10, .inl (fun _ => 0))), (sg, .inr (7, oS w sn gS 0)), (sn, .inl (cS, 40, .inr (.inl (fun _ => 0)))), (ro, .inr (6, oR w sg cu sp gR 0 0)), (cu, .inr (8, oB c1 gB1)), (c1, .inl (cC1, 10, .inl (fun _ => 0))), (sp, .inr (8, oB c2 gB2)), (c2, .inl (cC2, 10, .inl (fun _ => 0))), (tr, .inr (9, oT w sg ro gT 0 0 0 0)), (kdM, .inl (ckM, 10, .inl (fun _ => 0))), (fa, .inl (cf, 10, .inl (fun _ => 0))), (gw, .inl (cg, 10, .inl (fun _ => 0))), (ou, .inl (cO, 1, .inr (.inl (fun _ => 0)))), (m0, .inr (12, mM kdM gw fa gM 0 0 0 0 0 0 0 0 1))] := hD
      subst hw
      refine lv_istore (lv' := [(6, .int 0), (5, .int 1), (4, .int 0), (3, .ref ou), (2, .ref m0), (1, .ref h0), (0, .ref b)]) hx hb dL_law_984 hl (by decide) rfl (fun ls hl => ?_)
      refine lv_aload_n hx hb dL_law_986 rfl (lv_at hl 4 rfl) ?_
      have hPc := hP.sub (ws' := [(m0, .inr (12, mM kdM gw fa gM 0 0 0 0 0 0 0 0 1))]) [15] rfl
      have hDc := hD.sub (ws' := [(m0, .inr (12, mM kdM gw fa gM 0 0 0 0 0 0 0 0 1))]) [15] (by decide) rfl
      have hKc := hK.sub (tys' := []) [] rfl
      have hFc := roF hS hA
      refine va_calli (va_runV (As := []) (rest := []) ⟨hx, hb, hml, hown, hts⟩ (cu_X12_thrown l dC dI H1230.size m0 kdM gw fa gM 1 0 0) (cwV 0 hts (gV u_1392 u_1393 u_1394 u_14 u_1395) rfl rfl rfl (by decide +kernel) ⟨Nat.le_of_ble_eq_true rfl, Nat.le_of_ble_eq_true rfl⟩) ⟨gP_blind, va_recv hKc hPc (ci := 12) (q0 := 0) rfl rfl, gP_call hPc hKc hDc hE⟩ rfl rfl hl.1 rfl (lv_room (Nat.le_of_ble_eq_true rfl)) dL_law_987 ⟨(Nat.le_of_ble_eq_true rfl), (Nat.le_of_ble_eq_true rfl)⟩) hS (fun q _ h => hFc q h) hFc (fun r1234 u1232 t9 H1233 locs ht hvm hw hB hz1 hk1 hS => ?_)
      have hP := roP hP hk1
      subst hw
      refine lv_iload hx hb dL_law_990 (lv_at hl 1 rfl) ?_
      refine lv_icmp_eq (tgt := 997) hx hb dL_law_992 (by decide) (fun _ => ?_) (fun h9 => absurd (by decide) h9)
      refine lv_iload hx hb dL_law_997 (lv_at hl 1 rfl) ?_
      refine lv_if_ne (tgt := 1021) hx hb dL_law_999 (by decide) (fun _ => ?_) (fun h9 => absurd h9 (by decide))
      refine lv_goto (tgt := 1877) hx hb dL_law_1021 (by decide) ?_
      refine W.widen (k := 600002) (n := 7302232) (Nat.le_of_ble_eq_true rfl) (Nat.le_of_ble_eq_true rfl) ?_
      exact law_tail hfl hx hb hr hml hown hts hX hbl hlocks hE hZ hA hbA hAo hL8 hS (lv_sub hl [6, 2] rfl)
    · refine lv_iconst (v := 1) hx hb dL_law_976 (by decide) ?_
      refine lv_goto (tgt := 981) hx hb dL_law_977 (by decide) ?_
      have hPc := hP.sub (ws' := [(m0, .inr (12, mM kdM gw fa gM 0 0 0 0 0 0 0 0 0))]) [11] rfl
      have hDc := hD.sub (ws' := [(m0, .inr (12, mM kdM gw fa gM 0 0 0 0 0 0 0 0 0))]) [11] (by decide) rfl
      have hKc := hK.sub (tys' := []) [] rfl
      have hFc := va_free (wc := [(m0, .inr (12, mM kdM gw fa gM 0 0 0 0 0 0 0 0 0))]) hD hS hA [11] rfl
      refine va_calli (va_runV (As := [.int (xs (1 : Int32).toNatClampNeg), .int 1]) (rest := []) ⟨hx, hb, hml, hown, hts⟩ (c_X12_watch l dC dI H1224.size m0 kdM gw fa gM 0 (xs (1 : Int32).toNatClampNeg) 1) (cwV 2 hts (gV u_1506 u_1507 u_1508 u_14 u_1509) rfl rfl rfl (by decide +kernel) ⟨Nat.le_of_ble_eq_true rfl, Nat.le_of_ble_eq_true rfl⟩) ⟨gP_blind, va_recv hKc hPc (ci := 12) (q0 := 0) rfl rfl, gP_call hPc hKc hDc hE⟩ rfl rfl hl.1 rfl (lv_room (Nat.le_of_ble_eq_true rfl)) dL_law_981 ⟨(Nat.le_of_ble_eq_true rfl), (Nat.le_of_ble_eq_true rfl)⟩) hS (fun q _ h => hFc q h) hFc (fun r1237 u1235 t9 H1236 locs ht hvm hw hB hz1 hk1 hS => ?_)
      obtain ⟨hP1, hK1, hD1⟩ := hB
      rw [ht] at hP1
      have hK1 := va_K.moved hvm.symm hK1
      obtain ⟨hP, hD⟩ := va_join (wr := [(h0, .inr (11, oX w sg ro tr gX)), (w, .inr (10, oW kd gW 0 0)), (kd, .inl (cK, 10, .inl (fun _ => 0))), (sg, .inr (7, oS w sn gS 0)), (sn, .inl (cS, 40, .inr (.inl (fun _ => 0)))), (ro, .inr (6, oR w sg cu sp gR 0 0)), (cu, .inr (8, oB c1 gB1)), (c1, .inl (cC1, 10, .inl (fun _ => 0))), (sp, .inr (8, oB c2 gB2)), (c2, .inl (cC2, 10, .inl (fun _ => 0))), (tr, .inr (9, oT w sg ro gT 0 0 0 0)), (kdM, .inl (ckM, 10, .inl (fun _ => 0))), (fa, .inl (cf, 10, .inl (fun _ => 0))), (gw, .inl (cg, 10, .inl (fun _ => 0))), (ou, .inl (cO, 1, .inr (.inl (fun _ => 0))))]) (w1 := [(m0, .inr (12, mM kdM gw fa gM 0 0 0 0 0 0 0 0 1))]) hP hD [11] [0, 1, 2, 3, 4, 5, 6, 7, 8, 9, 10, 12, 13, 14, 15] rfl rfl (by decide) (by decide) hk1 hFc hP1 hD1
      have hK := (hK.sub (tys' := [(cK, .int), (cS, .long), (cC1, .int), (cC2, .int), (ckM, .int), (cf, .int), (cg, .int), (cO, .long)]) [0, 1, 2, 3, 4, 5, 6, 7] rfl).app hK1
      have hK : va_K (dC, dI) vwCl [(cK, .int), (cS, .long), (cC1, .int), (cC2, .int), (ckM, .int), (cf, .int), (cg, .int), (cO, .long)] s := hK
      have hP : va_P (dC, dI) vwCl [(h0, .inr (11, oX w sg ro tr gX)), (w, .inr (10, oW kd gW 0 0)), (kd, .inl (cK, 10, .inl (fun _ => 0))), (sg, .inr (7, oS w sn gS 0)), (sn, .inl (cS, 40, .inr (.inl (fun _ => 0)))), (ro, .inr (6, oR w sg cu sp gR 0 0)), (cu, .inr (8, oB c1 gB1)), (c1, .inl (cC1, 10, .inl (fun _ => 0))), (sp, .inr (8, oB c2 gB2)), (c2, .inl (cC2, 10, .inl (fun _ => 0))), (tr, .inr (9, oT w sg ro gT 0 0 0 0)), (kdM, .inl (ckM, 10, .inl (fun _ => 0))), (fa, .inl (cf, 10, .inl (fun _ => 0))), (gw, .inl (cg, 10, .inl (fun _ => 0))), (ou, .inl (cO, 1, .inr (.inl (fun _ => 0)))), (m0, .inr (12, mM kdM gw fa gM 0 0 0 0 0 0 0 0 1))] H1236 := hP
      have hD : va_D A [(h0, .inr (11, oX w sg ro tr gX)), (w, .inr (10, oW kd gW 0 0)), (kd, .inl (cK, 10, .inl (fun _ => 0))), (sg, .inr (7, oS w sn gS 0)), (sn, .inl (cS, 40, .inr (.inl (fun _ => 0)))), (ro, .inr (6, oR w sg cu sp gR 0 0)), (cu, .inr (8, oB c1 gB1)), (c1, .inl (cC1, 10, .inl (fun _ => 0))), (sp, .inr (8, oB c2 gB2)), (c2, .inl (cC2, 10, .inl (fun _ => 0))), (tr, .inr (9, oT w sg ro gT 0 0 0 0)), (kdM, .inl (ckM, 10, .inl (fun _ => 0))), (fa, .inl (cf, 10, .inl (fun _ => 0))), (gw, .inl (cg, 10, .inl (fun _ => 0))), (ou, .inl (cO, 1, .inr (.inl (fun _ => 0)))), (m0, .inr (12, mM kdM gw fa gM 0 0 0 0 0 0 0 0 1))] := hD
      subst hw
      refine lv_istore (lv' := [(6, .int 0), (5, .int 1), (4, .int 0), (3, .ref ou), (2, .ref m0), (1, .ref h0), (0, .ref b)]) hx hb dL_law_984 hl (by decide) rfl (fun ls hl => ?_)
      refine lv_aload_n hx hb dL_law_986 rfl (lv_at hl 4 rfl) ?_
      have hPc := hP.sub (ws' := [(m0, .inr (12, mM kdM gw fa gM 0 0 0 0 0 0 0 0 1))]) [15] rfl
      have hDc := hD.sub (ws' := [(m0, .inr (12, mM kdM gw fa gM 0 0 0 0 0 0 0 0 1))]) [15] (by decide) rfl
      have hKc := hK.sub (tys' := []) [] rfl
      have hFc := roF hS hA
      refine va_calli (va_runV (As := []) (rest := []) ⟨hx, hb, hml, hown, hts⟩ (cu_X12_thrown l dC dI H1236.size m0 kdM gw fa gM 1 0 0) (cwV 0 hts (gV u_1392 u_1393 u_1394 u_14 u_1395) rfl rfl rfl (by decide +kernel) ⟨Nat.le_of_ble_eq_true rfl, Nat.le_of_ble_eq_true rfl⟩) ⟨gP_blind, va_recv hKc hPc (ci := 12) (q0 := 0) rfl rfl, gP_call hPc hKc hDc hE⟩ rfl rfl hl.1 rfl (lv_room (Nat.le_of_ble_eq_true rfl)) dL_law_987 ⟨(Nat.le_of_ble_eq_true rfl), (Nat.le_of_ble_eq_true rfl)⟩) hS (fun q _ h => hFc q h) hFc (fun r1240 u1238 t9 H1239 locs ht hvm hw hB hz1 hk1 hS => ?_)
      have hP := roP hP hk1
      subst hw
      refine lv_iload hx hb dL_law_990 (lv_at hl 1 rfl) ?_
      refine lv_icmp_eq (tgt := 997) hx hb dL_law_992 (by decide) (fun _ => ?_) (fun h9 => absurd (by decide) h9)
      refine lv_iload hx hb dL_law_997 (lv_at hl 1 rfl) ?_
      refine lv_if_ne (tgt := 1021) hx hb dL_law_999 (by decide) (fun _ => ?_) (fun h9 => absurd h9 (by decide))
      refine lv_goto (tgt := 1877) hx hb dL_law_1021 (by decide) ?_
      refine W.widen (k := 600002) (n := 7302232) (Nat.le_of_ble_eq_true rfl) (Nat.le_of_ble_eq_true rfl) ?_
      exact law_tail hfl hx hb hr hml hown hts hX hbl hlocks hE hZ hA hbA hAo hL8 hS (lv_sub hl [6, 2] rfl)
set_option maxHeartbeats 8000000 in
set_option maxRecDepth 100000 in
theorem law_c11 {p : Program} {l : Launch} {e : Env} {s : State} {m : MethodId} {below : List Frame} {meth : Method} {c : Code} {dC : Nat → ClassId} {dI : Nat → Nat → Nat} {A : Nat → Prop} {b L : Nat} {xs : Nat → Int32} {h0 : Nat} {w : Nat} {kd : Nat} {cK : ClassId} {gW : Nat → Nat} {sg : Nat} {sn : Nat} {cS : ClassId} {gS : Nat → Nat} {ro : Nat} {cu : Nat} {c1 : Nat} {cC1 : ClassId} {gB1 : Nat → Nat} {sp : Nat} {c2 : Nat} {cC2 : ClassId} {gB2 : Nat → Nat} {gR : Nat → Nat} {tr : Nat} {gT : Nat → Nat} {gX : Nat → Nat} {m0 : Nat} {kdM : Nat} {ckM : ClassId} {fa : Nat} {cf : ClassId} {gw : Nat} {cg : ClassId} {gM : Nat → Nat} {ou : Nat} {cO : ClassId} (hfl : l.stackTraces = false) (hx : p.tables.exec = Jvm.exec) (hb : c.code = code) (hr : meth.sig.returnType = ret) (hml : c.maxLocals = 7) (hown : s.vm.findClass RL = some m.cls) (hts : ∀ w ∈ gU, w.before #[Value.ref b] s = true) (hX : va_X b L xs s s.heap) (hbl : b < s.heap.size) (hlocks : meth.locks = false) (hE : gEnv s) (hZ : gZ A s) (hA : ∀ q : Nat, s.heap.size ≤ q → A q) (hbA : ¬ A b) (hAo : ∀ q : Nat, A q → s.heap.size ≤ q) (hL8 : L = 8) : ∀ (H : Heap) (locs : List Loc), va_K (dC, dI) vwCl [(cK, .int), (cS, .long), (cC1, .int), (cC2, .int), (ckM, .int), (cf, .int), (cg, .int), (cO, .long)] s → va_P (dC, dI) vwCl [(h0, .inr (11, oX w sg ro tr gX)), (w, .inr (10, oW kd gW 0 0)), (kd, .inl (cK, 10, .inl (fun _ => 0))), (sg, .inr (7, oS w sn gS 0)), (sn, .inl (cS, 40, .inr (.inl (fun _ => 0)))), (ro, .inr (6, oR w sg cu sp gR 0 0)), (cu, .inr (8, oB c1 gB1)), (c1, .inl (cC1, 10, .inl (fun _ => 0))), (sp, .inr (8, oB c2 gB2)), (c2, .inl (cC2, 10, .inl (fun _ => 0))), (tr, .inr (9, oT w sg ro gT 0 0 0 0)), (m0, .inr (12, mM kdM gw fa gM 0 0 0 0 0 0 0 0 0)), (kdM, .inl (ckM, 10, .inl (fun _ => 0))), (fa, .inl (cf, 10, .inl (fun _ => 0))), (gw, .inl (cg, 10, .inl (fun _ => 0))), (ou, .inl (cO, 1, .inr (.inl (fun _ => 0))))] H → va_D A [(h0, .inr (11, oX w sg ro tr gX)), (w, .inr (10, oW kd gW 0 0)), (kd, .inl (cK, 10, .inl (fun _ => 0))), (sg, .inr (7, oS w sn gS 0)), (sn, .inl (cS, 40, .inr (.inl (fun _ => 0)))), (ro, .inr (6, oR w sg cu sp gR 0 0)), (cu, .inr (8, oB c1 gB1)), (c1, .inl (cC1, 10, .inl (fun _ => 0))), (sp, .inr (8, oB c2 gB2)), (c2, .inl (cC2, 10, .inl (fun _ => 0))), (tr, .inr (9, oT w sg ro gT 0 0 0 0)), (m0, .inr (12, mM kdM gw fa gM 0 0 0 0 0 0 0 0 0)), (kdM, .inl (ckM, 10, .inl (fun _ => 0))), (fa, .inl (cf, 10, .inl (fun _ => 0))), (gw, .inl (cg, 10, .inl (fun _ => 0))), (ou, .inl (cO, 1, .inr (.inl (fun _ => 0))))] → va_S A s.heap H locs → ∀ ls : Array Slot, lv_has ls 7 [(4, .int 0), (3, .ref ou), (2, .ref m0), (1, .ref h0), (0, .ref b)] → W p l e room_1 s m #[Value.ref b] below meth c H locs 441 44110 (lw_Z below #[Value.ref b] s) (F0 m 1024 ls []) := by
  intro H locs hK hP hD hS ls hl
  refine lv_aload_n hx hb dL_law_1024 rfl (lv_at hl 3 rfl) ?_
  refine lv_aload_n hx hb dL_law_1025 rfl (lv_at hl 4 rfl) ?_
  refine lv_iload hx hb dL_law_1026 (lv_at hl 0 rfl) ?_
  refine lv_iconst (v := 1) hx hb dL_law_1028 (by decide) ?_
  refine lv_iadd hx hb dL_law_1029 ?_
  refine lv_topi (fun z1241 ez1241 => ?_)
  obtain rfl : z1241 = 1 := ez1241.trans (by decide)
  refine va_sld hx hb hX hbl hbA hS (by rw [hL8]; unfold vp_in; decide) dL_law_1030 ?_
  refine lv_aload_n hx hb dL_law_1031 rfl (lv_at hl 4 rfl) ?_
  refine lv_iload hx hb dL_law_1032 (lv_at hl 0 rfl) ?_
  refine lv_iconst (v := 2) hx hb dL_law_1034 (by decide) ?_
  refine lv_iadd hx hb dL_law_1035 ?_
  refine lv_topi (fun z1242 ez1242 => ?_)
  obtain rfl : z1242 = 2 := ez1242.trans (by decide)
  refine va_sld hx hb hX hbl hbA hS (by rw [hL8]; unfold vp_in; decide) dL_law_1036 ?_
  refine lv_aload_n hx hb dL_law_1037 rfl (lv_at hl 4 rfl) ?_
  refine lv_iload hx hb dL_law_1038 (lv_at hl 0 rfl) ?_
  refine lv_iconst (v := 3) hx hb dL_law_1040 (by decide) ?_
  refine lv_iadd hx hb dL_law_1041 ?_
  refine lv_topi (fun z1243 ez1243 => ?_)
  obtain rfl : z1243 = 3 := ez1243.trans (by decide)
  refine va_sld hx hb hX hbl hbA hS (by rw [hL8]; unfold vp_in; decide) dL_law_1042 ?_
  refine lv_aload_n hx hb dL_law_1043 rfl (lv_at hl 1 rfl) ?_
  have hPc := hP.sub (ws' := [(h0, .inr (11, oX w sg ro tr gX)), (w, .inr (10, oW kd gW 0 0))]) [0, 1] rfl
  have hDc := hD.sub (ws' := [(h0, .inr (11, oX w sg ro tr gX)), (w, .inr (10, oW kd gW 0 0))]) [0, 1] (by decide) rfl
  have hKc := hK.sub (tys' := []) [] rfl
  have hFc := roF hS hA
  refine va_calli (vx_runSW (As := [.ref h0, .int (xs (1 : Int32).toNatClampNeg), .int (xs (2 : Int32).toNatClampNeg), .int (xs (3 : Int32).toNatClampNeg), .ref ou]) (rest := []) ⟨hx, hb, hml, hown, hts⟩ (c_L_pool l dC dI H.size hfl h0 ou w sg ro tr gX kd gW (xs (1 : Int32).toNatClampNeg) (xs (2 : Int32).toNatClampNeg) (xs (3 : Int32).toNatClampNeg)) (vx_cwSW 5 hts (gSt u_830 u_831 u_0 u_832) rfl rfl rfl (by decide +kernel) ⟨Nat.le_of_ble_eq_true rfl, Nat.le_of_ble_eq_true rfl⟩) ⟨gPZ_blind, gPZ_call hPc hKc hDc hE hZ hS hFc⟩ rfl rfl hl.1 rfl (lv_room (Nat.le_of_ble_eq_true rfl)) dL_law_1044 ⟨(Nat.le_of_ble_eq_true rfl), (Nat.le_of_ble_eq_true rfl)⟩) hS (fun q _ h => hFc q h) hFc (fun r1246 u1244 t9 H1245 locs ht hvm hw hB hz1 hk1 hS => ?_)
  have hP := roP hP hk1
  subst hw
  refine W.widen (k := 442) (n := 44116) (Nat.le_of_ble_eq_true rfl) (Nat.le_of_ble_eq_true rfl) ?_
  refine lv_istore (lv' := [(5, .int 1), (4, .int 0), (3, .ref ou), (2, .ref m0), (1, .ref h0), (0, .ref b)]) hx hb dL_law_1047 hl (by decide) rfl (fun ls hl => ?_)
  refine lv_aload_n hx hb dL_law_1049 rfl (lv_at hl 3 rfl) ?_
  refine lv_aload_n hx hb dL_law_1050 rfl (lv_at hl 5 rfl) ?_
  refine lv_iload hx hb dL_law_1051 (lv_at hl 1 rfl) ?_
  refine lv_iconst (v := 1) hx hb dL_law_1053 (by decide) ?_
  refine lv_iadd hx hb dL_law_1054 ?_
  refine lv_topi (fun z1247 ez1247 => ?_)
  obtain rfl : z1247 = 1 := ez1247.trans (by decide)
  refine va_sld hx hb hX hbl hbA hS (by rw [hL8]; unfold vp_in; decide) dL_law_1055 ?_
  refine lv_aload_n hx hb dL_law_1056 rfl (lv_at hl 5 rfl) ?_
  refine lv_iload hx hb dL_law_1057 (lv_at hl 1 rfl) ?_
  refine lv_iconst (v := 2) hx hb dL_law_1059 (by decide) ?_
  refine lv_iadd hx hb dL_law_1060 ?_
  refine lv_topi (fun z1248 ez1248 => ?_)
  obtain rfl : z1248 = 2 := ez1248.trans (by decide)
  refine va_sld hx hb hX hbl hbA hS (by rw [hL8]; unfold vp_in; decide) dL_law_1061 ?_
  refine lv_aload_n hx hb dL_law_1062 rfl (lv_at hl 5 rfl) ?_
  refine lv_iload hx hb dL_law_1063 (lv_at hl 1 rfl) ?_
  refine lv_iconst (v := 3) hx hb dL_law_1065 (by decide) ?_
  refine lv_iadd hx hb dL_law_1066 ?_
  refine lv_topi (fun z1249 ez1249 => ?_)
  obtain rfl : z1249 = 3 := ez1249.trans (by decide)
  refine va_sld hx hb hX hbl hbA hS (by rw [hL8]; unfold vp_in; decide) dL_law_1067 ?_
  have hPc := hP.sub (ws' := [(m0, .inr (12, mM kdM gw fa gM 0 0 0 0 0 0 0 0 0))]) [11] rfl
  have hDc := hD.sub (ws' := [(m0, .inr (12, mM kdM gw fa gM 0 0 0 0 0 0 0 0 0))]) [11] (by decide) rfl
  have hKc := hK.sub (tys' := []) [] rfl
  have hFc := va_free (wc := [(m0, .inr (12, mM kdM gw fa gM 0 0 0 0 0 0 0 0 0))]) hD hS hA [11] rfl
  refine va_calli (va_runV (As := [.int (xs (1 : Int32).toNatClampNeg), .int (xs (2 : Int32).toNatClampNeg), .int (xs (3 : Int32).toNatClampNeg)]) (rest := []) ⟨hx, hb, hml, hown, hts⟩ (c_X12_pool l dC dI H1245.size m0 kdM gw fa gM 0 (xs (1 : Int32).toNatClampNeg) (xs (2 : Int32).toNatClampNeg) (xs (3 : Int32).toNatClampNeg)) (cwV 3 hts (gV u_1510 u_1511 u_1512 u_14 u_1513) rfl rfl rfl (by decide +kernel) ⟨Nat.le_of_ble_eq_true rfl, Nat.le_of_ble_eq_true rfl⟩) ⟨gP_blind, va_recv hKc hPc (ci := 12) (q0 := 0) rfl rfl, gP_call hPc hKc hDc hE⟩ rfl rfl hl.1 rfl (lv_room (Nat.le_of_ble_eq_true rfl)) dL_law_1068 ⟨(Nat.le_of_ble_eq_true rfl), (Nat.le_of_ble_eq_true rfl)⟩) hS (fun q _ h => hFc q h) hFc (fun r1252 u1250 t9 H1251 locs ht hvm hw hB hz1 hk1 hS => ?_)
  obtain ⟨hP1, hK1, hD1⟩ := hB
  rw [ht] at hP1
  have hK1 := va_K.moved hvm.symm hK1
  obtain ⟨hP, hD⟩ := va_join (wr := [(h0, .inr (11, oX w sg ro tr gX)), (w, .inr (10, oW kd gW 0 0)), (kd, .inl (cK, 10, .inl (fun _ => 0))), (sg, .inr (7, oS w sn gS 0)), (sn, .inl (cS, 40, .inr (.inl (fun _ => 0)))), (ro, .inr (6, oR w sg cu sp gR 0 0)), (cu, .inr (8, oB c1 gB1)), (c1, .inl (cC1, 10, .inl (fun _ => 0))), (sp, .inr (8, oB c2 gB2)), (c2, .inl (cC2, 10, .inl (fun _ => 0))), (tr, .inr (9, oT w sg ro gT 0 0 0 0)), (kdM, .inl (ckM, 10, .inl (fun _ => 0))), (fa, .inl (cf, 10, .inl (fun _ => 0))), (gw, .inl (cg, 10, .inl (fun _ => 0))), (ou, .inl (cO, 1, .inr (.inl (fun _ => 0))))]) (w1 := [(m0, .inr (12, mM kdM gw fa gM 0 0 0 0 0 0 0 0 1))]) hP hD [11] [0, 1, 2, 3, 4, 5, 6, 7, 8, 9, 10, 12, 13, 14, 15] rfl rfl (by decide) (by decide) hk1 hFc hP1 hD1
  have hK := (hK.sub (tys' := [(cK, .int), (cS, .long), (cC1, .int), (cC2, .int), (ckM, .int), (cf, .int), (cg, .int), (cO, .long)]) [0, 1, 2, 3, 4, 5, 6, 7] rfl).app hK1
  have hK : va_K (dC, dI) vwCl [(cK, .int), (cS, .long), (cC1, .int), (cC2, .int), (ckM, .int), (cf, .int), (cg, .int), (cO, .long)] s := hK
  have hP : va_P (dC, dI) vwCl [(h0, .inr (11, oX w sg ro tr gX)), (w, .inr (10, oW kd gW 0 0)), (kd, .inl (cK, 10, .inl (fun _ => 0))), (sg, .inr (7, oS w sn gS 0)), (sn, .inl (cS, 40, .inr (.inl (fun _ => 0)))), (ro, .inr (6, oR w sg cu sp gR 0 0)), (cu, .inr (8, oB c1 gB1)), (c1, .inl (cC1, 10, .inl (fun _ => 0))), (sp, .inr (8, oB c2 gB2)), (c2, .inl (cC2, 10, .inl (fun _ => 0))), (tr, .inr (9, oT w sg ro gT 0 0 0 0)), (kdM, .inl (ckM, 10, .inl (fun _ => 0))), (fa, .inl (cf, 10, .inl (fun _ => 0))), (gw, .inl (cg, 10, .inl (fun _ => 0))), (ou, .inl (cO, 1, .inr (.inl (fun _ => 0)))), (m0, .inr (12, mM kdM gw fa gM 0 0 0 0 0 0 0 0 1))] H1251 := hP
  have hD : va_D A [(h0, .inr (11, oX w sg ro tr gX)), (w, .inr (10, oW kd gW 0 0)), (kd, .inl (cK, 10, .inl (fun _ => 0))), (sg, .inr (7, oS w sn gS 0)), (sn, .inl (cS, 40, .inr (.inl (fun _ => 0)))), (ro, .inr (6, oR w sg cu sp gR 0 0)), (cu, .inr (8, oB c1 gB1)), (c1, .inl (cC1, 10, .inl (fun _ => 0))), (sp, .inr (8, oB c2 gB2)), (c2, .inl (cC2, 10, .inl (fun _ => 0))), (tr, .inr (9, oT w sg ro gT 0 0 0 0)), (kdM, .inl (ckM, 10, .inl (fun _ => 0))), (fa, .inl (cf, 10, .inl (fun _ => 0))), (gw, .inl (cg, 10, .inl (fun _ => 0))), (ou, .inl (cO, 1, .inr (.inl (fun _ => 0)))), (m0, .inr (12, mM kdM gw fa gM 0 0 0 0 0 0 0 0 1))] := hD
  subst hw
  refine lv_istore (lv' := [(6, .int 0), (5, .int 1), (4, .int 0), (3, .ref ou), (2, .ref m0), (1, .ref h0), (0, .ref b)]) hx hb dL_law_1071 hl (by decide) rfl (fun ls hl => ?_)
  refine lv_aload_n hx hb dL_law_1073 rfl (lv_at hl 4 rfl) ?_
  have hPc := hP.sub (ws' := [(m0, .inr (12, mM kdM gw fa gM 0 0 0 0 0 0 0 0 1))]) [15] rfl
  have hDc := hD.sub (ws' := [(m0, .inr (12, mM kdM gw fa gM 0 0 0 0 0 0 0 0 1))]) [15] (by decide) rfl
  have hKc := hK.sub (tys' := []) [] rfl
  have hFc := roF hS hA
  refine va_calli (va_runV (As := []) (rest := []) ⟨hx, hb, hml, hown, hts⟩ (cu_X12_thrown l dC dI H1251.size m0 kdM gw fa gM 1 0 0) (cwV 0 hts (gV u_1392 u_1393 u_1394 u_14 u_1395) rfl rfl rfl (by decide +kernel) ⟨Nat.le_of_ble_eq_true rfl, Nat.le_of_ble_eq_true rfl⟩) ⟨gP_blind, va_recv hKc hPc (ci := 12) (q0 := 0) rfl rfl, gP_call hPc hKc hDc hE⟩ rfl rfl hl.1 rfl (lv_room (Nat.le_of_ble_eq_true rfl)) dL_law_1074 ⟨(Nat.le_of_ble_eq_true rfl), (Nat.le_of_ble_eq_true rfl)⟩) hS (fun q _ h => hFc q h) hFc (fun r1255 u1253 t9 H1254 locs ht hvm hw hB hz1 hk1 hS => ?_)
  have hP := roP hP hk1
  subst hw
  refine lv_iload hx hb dL_law_1077 (lv_at hl 1 rfl) ?_
  refine lv_icmp_eq (tgt := 1084) hx hb dL_law_1079 (by decide) (fun _ => ?_) (fun h9 => absurd (by decide) h9)
  refine lv_iload hx hb dL_law_1084 (lv_at hl 1 rfl) ?_
  refine lv_if_ne (tgt := 1101) hx hb dL_law_1086 (by decide) (fun _ => ?_) (fun h9 => absurd h9 (by decide))
  refine lv_goto (tgt := 1877) hx hb dL_law_1101 (by decide) ?_
  refine W.widen (k := 600002) (n := 7302232) (Nat.le_of_ble_eq_true rfl) (Nat.le_of_ble_eq_true rfl) ?_
  exact law_tail hfl hx hb hr hml hown hts hX hbl hlocks hE hZ hA hbA hAo hL8 hS (lv_sub hl [6, 2] rfl)
