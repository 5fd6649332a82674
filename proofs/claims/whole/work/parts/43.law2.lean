/-! ===== the law, decoded (2) ===== -/
theorem dL_570 : decode code 570 = .ok (.if_icmp .eq 443, 3) := by decide +kernel
theorem dL_573 : decode code 573 = .ok (.iconst 0, 1) := by decide +kernel
theorem dL_574 : decode code 574 = .ok (.ireturn, 1) := by decide +kernel
theorem dL_575 : decode code 575 = .ok (.aload_n 1, 1) := by decide +kernel
theorem dL_576 : decode code 576 = .ok (.aload_n 0, 1) := by decide +kernel
theorem dL_577 : decode code 577 = .ok (.iload_n 3, 1) := by decide +kernel
theorem dL_578 : decode code 578 = .ok (.iconst 1, 1) := by decide +kernel
theorem dL_579 : decode code 579 = .ok (.iadd, 1) := by decide +kernel
theorem dL_580 : decode code 580 = .ok (.iaload, 1) := by decide +kernel
theorem dL_581 : decode code 581 = .ok (.aload_n 0, 1) := by decide +kernel
theorem dL_582 : decode code 582 = .ok (.iload_n 3, 1) := by decide +kernel
theorem dL_583 : decode code 583 = .ok (.iconst 2, 1) := by decide +kernel
theorem dL_584 : decode code 584 = .ok (.iadd, 1) := by decide +kernel
theorem dL_585 : decode code 585 = .ok (.iaload, 1) := by decide +kernel
theorem dL_586 : decode code 586 = .ok (.aload_n 0, 1) := by decide +kernel
theorem dL_587 : decode code 587 = .ok (.iload_n 3, 1) := by decide +kernel
theorem dL_588 : decode code 588 = .ok (.iconst 3, 1) := by decide +kernel
theorem dL_589 : decode code 589 = .ok (.iadd, 1) := by decide +kernel
theorem dL_590 : decode code 590 = .ok (.iaload, 1) := by decide +kernel
theorem dL_591 : decode code 591 = .ok (.invokevirtual 72, 3) := by decide +kernel
theorem dL_594 : decode code 594 = .ok (.aload_n 2, 1) := by decide +kernel
theorem dL_595 : decode code 595 = .ok (.aload_n 0, 1) := by decide +kernel
theorem dL_596 : decode code 596 = .ok (.iload_n 3, 1) := by decide +kernel
theorem dL_597 : decode code 597 = .ok (.iconst 1, 1) := by decide +kernel
theorem dL_598 : decode code 598 = .ok (.iadd, 1) := by decide +kernel
theorem dL_599 : decode code 599 = .ok (.iaload, 1) := by decide +kernel
theorem dL_600 : decode code 600 = .ok (.aload_n 0, 1) := by decide +kernel
theorem dL_601 : decode code 601 = .ok (.iload_n 3, 1) := by decide +kernel
theorem dL_602 : decode code 602 = .ok (.iconst 2, 1) := by decide +kernel
theorem dL_603 : decode code 603 = .ok (.iadd, 1) := by decide +kernel
theorem dL_604 : decode code 604 = .ok (.iaload, 1) := by decide +kernel
theorem dL_605 : decode code 605 = .ok (.aload_n 0, 1) := by decide +kernel
theorem dL_606 : decode code 606 = .ok (.iload_n 3, 1) := by decide +kernel
theorem dL_607 : decode code 607 = .ok (.iconst 3, 1) := by decide +kernel
theorem dL_608 : decode code 608 = .ok (.iadd, 1) := by decide +kernel
theorem dL_609 : decode code 609 = .ok (.iaload, 1) := by decide +kernel
theorem dL_610 : decode code 610 = .ok (.invokevirtual 75, 3) := by decide +kernel
theorem dL_613 : decode code 613 = .ok (.if_icmp .eq 400, 3) := by decide +kernel
theorem dL_616 : decode code 616 = .ok (.iconst 0, 1) := by decide +kernel
theorem dL_617 : decode code 617 = .ok (.ireturn, 1) := by decide +kernel
theorem dL_618 : decode code 618 = .ok (.aload_n 1, 1) := by decide +kernel
theorem dL_619 : decode code 619 = .ok (.aload_n 0, 1) := by decide +kernel
theorem dL_620 : decode code 620 = .ok (.iload_n 3, 1) := by decide +kernel
theorem dL_621 : decode code 621 = .ok (.iconst 1, 1) := by decide +kernel
theorem dL_622 : decode code 622 = .ok (.iadd, 1) := by decide +kernel
theorem dL_623 : decode code 623 = .ok (.iaload, 1) := by decide +kernel
theorem dL_624 : decode code 624 = .ok (.aload_n 0, 1) := by decide +kernel
theorem dL_625 : decode code 625 = .ok (.iload_n 3, 1) := by decide +kernel
theorem dL_626 : decode code 626 = .ok (.iconst 2, 1) := by decide +kernel
theorem dL_627 : decode code 627 = .ok (.iadd, 1) := by decide +kernel
theorem dL_628 : decode code 628 = .ok (.iaload, 1) := by decide +kernel
theorem dL_629 : decode code 629 = .ok (.aload_n 0, 1) := by decide +kernel
theorem dL_630 : decode code 630 = .ok (.iload_n 3, 1) := by decide +kernel
theorem dL_631 : decode code 631 = .ok (.iconst 3, 1) := by decide +kernel
theorem dL_632 : decode code 632 = .ok (.iadd, 1) := by decide +kernel
theorem dL_633 : decode code 633 = .ok (.iaload, 1) := by decide +kernel
theorem dL_634 : decode code 634 = .ok (.invokevirtual 76, 3) := by decide +kernel
theorem dL_637 : decode code 637 = .ok (.aload_n 2, 1) := by decide +kernel
theorem dL_638 : decode code 638 = .ok (.aload_n 0, 1) := by decide +kernel
theorem dL_639 : decode code 639 = .ok (.iload_n 3, 1) := by decide +kernel
theorem dL_640 : decode code 640 = .ok (.iconst 1, 1) := by decide +kernel
theorem dL_641 : decode code 641 = .ok (.iadd, 1) := by decide +kernel
theorem dL_642 : decode code 642 = .ok (.iaload, 1) := by decide +kernel
theorem dL_643 : decode code 643 = .ok (.aload_n 0, 1) := by decide +kernel
theorem dL_644 : decode code 644 = .ok (.iload_n 3, 1) := by decide +kernel
theorem dL_645 : decode code 645 = .ok (.iconst 2, 1) := by decide +kernel
theorem dL_646 : decode code 646 = .ok (.iadd, 1) := by decide +kernel
theorem dL_647 : decode code 647 = .ok (.iaload, 1) := by decide +kernel
theorem dL_648 : decode code 648 = .ok (.aload_n 0, 1) := by decide +kernel
theorem dL_649 : decode code 649 = .ok (.iload_n 3, 1) := by decide +kernel
theorem dL_650 : decode code 650 = .ok (.iconst 3, 1) := by decide +kernel
theorem dL_651 : decode code 651 = .ok (.iadd, 1) := by decide +kernel
theorem dL_652 : decode code 652 = .ok (.iaload, 1) := by decide +kernel
theorem dL_653 : decode code 653 = .ok (.invokevirtual 79, 3) := by decide +kernel
theorem dL_656 : decode code 656 = .ok (.if_icmp .eq 357, 3) := by decide +kernel
theorem dL_659 : decode code 659 = .ok (.iconst 0, 1) := by decide +kernel
theorem dL_660 : decode code 660 = .ok (.ireturn, 1) := by decide +kernel
theorem dL_661 : decode code 661 = .ok (.aload_n 1, 1) := by decide +kernel
theorem dL_662 : decode code 662 = .ok (.invokevirtual 80, 3) := by decide +kernel
theorem dL_665 : decode code 665 = .ok (.aload_n 2, 1) := by decide +kernel
theorem dL_666 : decode code 666 = .ok (.invokevirtual 83, 3) := by decide +kernel
theorem dL_669 : decode code 669 = .ok (.if_icmp .eq 344, 3) := by decide +kernel
theorem dL_672 : decode code 672 = .ok (.iconst 0, 1) := by decide +kernel
theorem dL_673 : decode code 673 = .ok (.ireturn, 1) := by decide +kernel
theorem dL_674 : decode code 674 = .ok (.aload_n 1, 1) := by decide +kernel
theorem dL_675 : decode code 675 = .ok (.invokevirtual 84, 3) := by decide +kernel
theorem dL_678 : decode code 678 = .ok (.aload_n 2, 1) := by decide +kernel
theorem dL_679 : decode code 679 = .ok (.invokevirtual 87, 3) := by decide +kernel
theorem dL_682 : decode code 682 = .ok (.if_icmp .eq 331, 3) := by decide +kernel
theorem dL_685 : decode code 685 = .ok (.iconst 0, 1) := by decide +kernel
theorem dL_686 : decode code 686 = .ok (.ireturn, 1) := by decide +kernel
theorem dL_687 : decode code 687 = .ok (.aload_n 1, 1) := by decide +kernel
theorem dL_688 : decode code 688 = .ok (.invokevirtual 88, 3) := by decide +kernel
theorem dL_691 : decode code 691 = .ok (.aload_n 2, 1) := by decide +kernel
theorem dL_692 : decode code 692 = .ok (.invokevirtual 91, 3) := by decide +kernel
theorem dL_695 : decode code 695 = .ok (.if_icmp .eq 318, 3) := by decide +kernel
theorem dL_698 : decode code 698 = .ok (.iconst 0, 1) := by decide +kernel
theorem dL_699 : decode code 699 = .ok (.ireturn, 1) := by decide +kernel
theorem dL_700 : decode code 700 = .ok (.aload_n 1, 1) := by decide +kernel
theorem dL_701 : decode code 701 = .ok (.aload_n 0, 1) := by decide +kernel
theorem dL_702 : decode code 702 = .ok (.iload_n 3, 1) := by decide +kernel
theorem dL_703 : decode code 703 = .ok (.iconst 1, 1) := by decide +kernel
theorem dL_704 : decode code 704 = .ok (.iadd, 1) := by decide +kernel
theorem dL_705 : decode code 705 = .ok (.iaload, 1) := by decide +kernel
theorem dL_706 : decode code 706 = .ok (.invokevirtual 92, 3) := by decide +kernel
theorem dL_709 : decode code 709 = .ok (.aload_n 2, 1) := by decide +kernel
theorem dL_710 : decode code 710 = .ok (.aload_n 0, 1) := by decide +kernel
theorem dL_711 : decode code 711 = .ok (.iload_n 3, 1) := by decide +kernel
theorem dL_712 : decode code 712 = .ok (.iconst 1, 1) := by decide +kernel
theorem dL_713 : decode code 713 = .ok (.iadd, 1) := by decide +kernel
theorem dL_714 : decode code 714 = .ok (.iaload, 1) := by decide +kernel
theorem dL_715 : decode code 715 = .ok (.invokevirtual 95, 3) := by decide +kernel
theorem dL_718 : decode code 718 = .ok (.if_icmp .eq 295, 3) := by decide +kernel
theorem dL_721 : decode code 721 = .ok (.iconst 0, 1) := by decide +kernel
theorem dL_722 : decode code 722 = .ok (.ireturn, 1) := by decide +kernel
theorem dL_723 : decode code 723 = .ok (.aload_n 1, 1) := by decide +kernel
theorem dL_724 : decode code 724 = .ok (.aload_n 0, 1) := by decide +kernel
theorem dL_725 : decode code 725 = .ok (.iload_n 3, 1) := by decide +kernel
theorem dL_726 : decode code 726 = .ok (.iconst 1, 1) := by decide +kernel
theorem dL_727 : decode code 727 = .ok (.iadd, 1) := by decide +kernel
theorem dL_728 : decode code 728 = .ok (.iaload, 1) := by decide +kernel
theorem dL_729 : decode code 729 = .ok (.invokevirtual 96, 3) := by decide +kernel
theorem dL_732 : decode code 732 = .ok (.aload_n 2, 1) := by decide +kernel
theorem dL_733 : decode code 733 = .ok (.aload_n 0, 1) := by decide +kernel
theorem dL_734 : decode code 734 = .ok (.iload_n 3, 1) := by decide +kernel
theorem dL_735 : decode code 735 = .ok (.iconst 1, 1) := by decide +kernel
theorem dL_736 : decode code 736 = .ok (.iadd, 1) := by decide +kernel
theorem dL_737 : decode code 737 = .ok (.iaload, 1) := by decide +kernel
theorem dL_738 : decode code 738 = .ok (.invokevirtual 99, 3) := by decide +kernel
theorem dL_741 : decode code 741 = .ok (.if_icmp .eq 272, 3) := by decide +kernel
theorem dL_744 : decode code 744 = .ok (.iconst 0, 1) := by decide +kernel
theorem dL_745 : decode code 745 = .ok (.ireturn, 1) := by decide +kernel
theorem dL_746 : decode code 746 = .ok (.aload_n 1, 1) := by decide +kernel
theorem dL_747 : decode code 747 = .ok (.aload_n 0, 1) := by decide +kernel
theorem dL_748 : decode code 748 = .ok (.iload_n 3, 1) := by decide +kernel
theorem dL_749 : decode code 749 = .ok (.iconst 1, 1) := by decide +kernel
theorem dL_750 : decode code 750 = .ok (.iadd, 1) := by decide +kernel
theorem dL_751 : decode code 751 = .ok (.iaload, 1) := by decide +kernel
theorem dL_752 : decode code 752 = .ok (.aload_n 0, 1) := by decide +kernel
theorem dL_753 : decode code 753 = .ok (.iload_n 3, 1) := by decide +kernel
theorem dL_754 : decode code 754 = .ok (.iconst 2, 1) := by decide +kernel
theorem dL_755 : decode code 755 = .ok (.iadd, 1) := by decide +kernel
theorem dL_756 : decode code 756 = .ok (.iaload, 1) := by decide +kernel
theorem dL_757 : decode code 757 = .ok (.invokevirtual 100, 3) := by decide +kernel
theorem dL_760 : decode code 760 = .ok (.aload_n 2, 1) := by decide +kernel
theorem dL_761 : decode code 761 = .ok (.aload_n 0, 1) := by decide +kernel
theorem dL_762 : decode code 762 = .ok (.iload_n 3, 1) := by decide +kernel
theorem dL_763 : decode code 763 = .ok (.iconst 1, 1) := by decide +kernel
theorem dL_764 : decode code 764 = .ok (.iadd, 1) := by decide +kernel
theorem dL_765 : decode code 765 = .ok (.iaload, 1) := by decide +kernel
theorem dL_766 : decode code 766 = .ok (.aload_n 0, 1) := by decide +kernel
theorem dL_767 : decode code 767 = .ok (.iload_n 3, 1) := by decide +kernel
theorem dL_768 : decode code 768 = .ok (.iconst 2, 1) := by decide +kernel
theorem dL_769 : decode code 769 = .ok (.iadd, 1) := by decide +kernel
theorem dL_770 : decode code 770 = .ok (.iaload, 1) := by decide +kernel
theorem dL_771 : decode code 771 = .ok (.invokevirtual 103, 3) := by decide +kernel
theorem dL_774 : decode code 774 = .ok (.if_icmp .eq 239, 3) := by decide +kernel
theorem dL_777 : decode code 777 = .ok (.iconst 0, 1) := by decide +kernel
theorem dL_778 : decode code 778 = .ok (.ireturn, 1) := by decide +kernel
theorem dL_779 : decode code 779 = .ok (.aload_n 1, 1) := by decide +kernel
theorem dL_780 : decode code 780 = .ok (.aload_n 0, 1) := by decide +kernel
theorem dL_781 : decode code 781 = .ok (.iload_n 3, 1) := by decide +kernel
theorem dL_782 : decode code 782 = .ok (.iconst 1, 1) := by decide +kernel
theorem dL_783 : decode code 783 = .ok (.iadd, 1) := by decide +kernel
theorem dL_784 : decode code 784 = .ok (.iaload, 1) := by decide +kernel
theorem dL_785 : decode code 785 = .ok (.aload_n 0, 1) := by decide +kernel
theorem dL_786 : decode code 786 = .ok (.iload_n 3, 1) := by decide +kernel
theorem dL_787 : decode code 787 = .ok (.iconst 2, 1) := by decide +kernel
theorem dL_788 : decode code 788 = .ok (.iadd, 1) := by decide +kernel
theorem dL_789 : decode code 789 = .ok (.iaload, 1) := by decide +kernel
theorem dL_790 : decode code 790 = .ok (.invokevirtual 104, 3) := by decide +kernel
theorem dL_793 : decode code 793 = .ok (.aload_n 2, 1) := by decide +kernel
theorem dL_794 : decode code 794 = .ok (.aload_n 0, 1) := by decide +kernel
theorem dL_795 : decode code 795 = .ok (.iload_n 3, 1) := by decide +kernel
theorem dL_796 : decode code 796 = .ok (.iconst 1, 1) := by decide +kernel
theorem dL_797 : decode code 797 = .ok (.iadd, 1) := by decide +kernel
theorem dL_798 : decode code 798 = .ok (.iaload, 1) := by decide +kernel
theorem dL_799 : decode code 799 = .ok (.aload_n 0, 1) := by decide +kernel
theorem dL_800 : decode code 800 = .ok (.iload_n 3, 1) := by decide +kernel
theorem dL_801 : decode code 801 = .ok (.iconst 2, 1) := by decide +kernel
theorem dL_802 : decode code 802 = .ok (.iadd, 1) := by decide +kernel
theorem dL_803 : decode code 803 = .ok (.iaload, 1) := by decide +kernel
theorem dL_804 : decode code 804 = .ok (.invokevirtual 107, 3) := by decide +kernel
theorem dL_807 : decode code 807 = .ok (.if_icmp .eq 206, 3) := by decide +kernel
theorem dL_810 : decode code 810 = .ok (.iconst 0, 1) := by decide +kernel
theorem dL_811 : decode code 811 = .ok (.ireturn, 1) := by decide +kernel
theorem dL_812 : decode code 812 = .ok (.aload_n 1, 1) := by decide +kernel
theorem dL_813 : decode code 813 = .ok (.aload_n 0, 1) := by decide +kernel
theorem dL_814 : decode code 814 = .ok (.iload_n 3, 1) := by decide +kernel
theorem dL_815 : decode code 815 = .ok (.iconst 1, 1) := by decide +kernel
theorem dL_816 : decode code 816 = .ok (.iadd, 1) := by decide +kernel
theorem dL_817 : decode code 817 = .ok (.iaload, 1) := by decide +kernel
theorem dL_818 : decode code 818 = .ok (.aload_n 0, 1) := by decide +kernel
theorem dL_819 : decode code 819 = .ok (.iload_n 3, 1) := by decide +kernel
theorem dL_820 : decode code 820 = .ok (.iconst 2, 1) := by decide +kernel
theorem dL_821 : decode code 821 = .ok (.iadd, 1) := by decide +kernel
theorem dL_822 : decode code 822 = .ok (.iaload, 1) := by decide +kernel
theorem dL_823 : decode code 823 = .ok (.aload_n 0, 1) := by decide +kernel
theorem dL_824 : decode code 824 = .ok (.iload_n 3, 1) := by decide +kernel
theorem dL_825 : decode code 825 = .ok (.iconst 3, 1) := by decide +kernel
theorem dL_826 : decode code 826 = .ok (.iadd, 1) := by decide +kernel
theorem dL_827 : decode code 827 = .ok (.iaload, 1) := by decide +kernel
theorem dL_828 : decode code 828 = .ok (.ifCond .eq 7, 3) := by decide +kernel
theorem dL_831 : decode code 831 = .ok (.iconst 1, 1) := by decide +kernel
theorem dL_832 : decode code 832 = .ok (.goto 4, 3) := by decide +kernel
theorem dL_835 : decode code 835 = .ok (.iconst 0, 1) := by decide +kernel
theorem dL_836 : decode code 836 = .ok (.invokevirtual 108, 3) := by decide +kernel
theorem dL_839 : decode code 839 = .ok (.aload_n 2, 1) := by decide +kernel
theorem dL_840 : decode code 840 = .ok (.aload_n 0, 1) := by decide +kernel
theorem dL_841 : decode code 841 = .ok (.iload_n 3, 1) := by decide +kernel
theorem dL_842 : decode code 842 = .ok (.iconst 1, 1) := by decide +kernel
theorem dL_843 : decode code 843 = .ok (.iadd, 1) := by decide +kernel
theorem dL_844 : decode code 844 = .ok (.iaload, 1) := by decide +kernel
theorem dL_845 : decode code 845 = .ok (.aload_n 0, 1) := by decide +kernel
theorem dL_846 : decode code 846 = .ok (.iload_n 3, 1) := by decide +kernel
theorem dL_847 : decode code 847 = .ok (.iconst 2, 1) := by decide +kernel
theorem dL_848 : decode code 848 = .ok (.iadd, 1) := by decide +kernel
theorem dL_849 : decode code 849 = .ok (.iaload, 1) := by decide +kernel
theorem dL_850 : decode code 850 = .ok (.aload_n 0, 1) := by decide +kernel
theorem dL_851 : decode code 851 = .ok (.iload_n 3, 1) := by decide +kernel
theorem dL_852 : decode code 852 = .ok (.iconst 3, 1) := by decide +kernel
theorem dL_853 : decode code 853 = .ok (.iadd, 1) := by decide +kernel
theorem dL_854 : decode code 854 = .ok (.iaload, 1) := by decide +kernel
theorem dL_855 : decode code 855 = .ok (.ifCond .eq 7, 3) := by decide +kernel
theorem dL_858 : decode code 858 = .ok (.iconst 1, 1) := by decide +kernel
theorem dL_859 : decode code 859 = .ok (.goto 4, 3) := by decide +kernel
theorem dL_862 : decode code 862 = .ok (.iconst 0, 1) := by decide +kernel
theorem dL_863 : decode code 863 = .ok (.invokevirtual 112, 3) := by decide +kernel
theorem dL_866 : decode code 866 = .ok (.if_icmp .eq 147, 3) := by decide +kernel
theorem dL_869 : decode code 869 = .ok (.iconst 0, 1) := by decide +kernel
theorem dL_870 : decode code 870 = .ok (.ireturn, 1) := by decide +kernel
theorem dL_871 : decode code 871 = .ok (.aload_n 1, 1) := by decide +kernel
theorem dL_872 : decode code 872 = .ok (.aload_n 0, 1) := by decide +kernel
theorem dL_873 : decode code 873 = .ok (.iload_n 3, 1) := by decide +kernel
theorem dL_874 : decode code 874 = .ok (.iconst 1, 1) := by decide +kernel
theorem dL_875 : decode code 875 = .ok (.iadd, 1) := by decide +kernel
theorem dL_876 : decode code 876 = .ok (.iaload, 1) := by decide +kernel
theorem dL_877 : decode code 877 = .ok (.invokevirtual 113, 3) := by decide +kernel
theorem dL_880 : decode code 880 = .ok (.aload_n 2, 1) := by decide +kernel
theorem dL_881 : decode code 881 = .ok (.aload_n 0, 1) := by decide +kernel
theorem dL_882 : decode code 882 = .ok (.iload_n 3, 1) := by decide +kernel
theorem dL_883 : decode code 883 = .ok (.iconst 1, 1) := by decide +kernel
theorem dL_884 : decode code 884 = .ok (.iadd, 1) := by decide +kernel
theorem dL_885 : decode code 885 = .ok (.iaload, 1) := by decide +kernel
theorem dL_886 : decode code 886 = .ok (.invokevirtual 116, 3) := by decide +kernel
theorem dL_889 : decode code 889 = .ok (.if_icmp .eq 124, 3) := by decide +kernel
theorem dL_892 : decode code 892 = .ok (.iconst 0, 1) := by decide +kernel
theorem dL_893 : decode code 893 = .ok (.ireturn, 1) := by decide +kernel
theorem dL_894 : decode code 894 = .ok (.aload_n 1, 1) := by decide +kernel
theorem dL_895 : decode code 895 = .ok (.aload_n 0, 1) := by decide +kernel
theorem dL_896 : decode code 896 = .ok (.iload_n 3, 1) := by decide +kernel
theorem dL_897 : decode code 897 = .ok (.iconst 1, 1) := by decide +kernel
theorem dL_898 : decode code 898 = .ok (.iadd, 1) := by decide +kernel
theorem dL_899 : decode code 899 = .ok (.iaload, 1) := by decide +kernel
theorem dL_900 : decode code 900 = .ok (.aload_n 0, 1) := by decide +kernel
theorem dL_901 : decode code 901 = .ok (.iload_n 3, 1) := by decide +kernel
theorem dL_902 : decode code 902 = .ok (.iconst 2, 1) := by decide +kernel
theorem dL_903 : decode code 903 = .ok (.iadd, 1) := by decide +kernel
theorem dL_904 : decode code 904 = .ok (.iaload, 1) := by decide +kernel
theorem dL_905 : decode code 905 = .ok (.invokevirtual 117, 3) := by decide +kernel
theorem dL_908 : decode code 908 = .ok (.aload_n 2, 1) := by decide +kernel
theorem dL_909 : decode code 909 = .ok (.aload_n 0, 1) := by decide +kernel
theorem dL_910 : decode code 910 = .ok (.iload_n 3, 1) := by decide +kernel
theorem dL_911 : decode code 911 = .ok (.iconst 1, 1) := by decide +kernel
theorem dL_912 : decode code 912 = .ok (.iadd, 1) := by decide +kernel
theorem dL_913 : decode code 913 = .ok (.iaload, 1) := by decide +kernel
theorem dL_914 : decode code 914 = .ok (.aload_n 0, 1) := by decide +kernel
theorem dL_915 : decode code 915 = .ok (.iload_n 3, 1) := by decide +kernel
theorem dL_916 : decode code 916 = .ok (.iconst 2, 1) := by decide +kernel
theorem dL_917 : decode code 917 = .ok (.iadd, 1) := by decide +kernel
theorem dL_918 : decode code 918 = .ok (.iaload, 1) := by decide +kernel
theorem dL_919 : decode code 919 = .ok (.invokevirtual 120, 3) := by decide +kernel
theorem dL_922 : decode code 922 = .ok (.if_icmp .eq 91, 3) := by decide +kernel
theorem dL_925 : decode code 925 = .ok (.iconst 0, 1) := by decide +kernel
theorem dL_926 : decode code 926 = .ok (.ireturn, 1) := by decide +kernel
theorem dL_927 : decode code 927 = .ok (.aload_n 1, 1) := by decide +kernel
theorem dL_928 : decode code 928 = .ok (.invokevirtual 121, 3) := by decide +kernel
theorem dL_931 : decode code 931 = .ok (.aload_n 2, 1) := by decide +kernel
theorem dL_932 : decode code 932 = .ok (.invokevirtual 125, 3) := by decide +kernel
theorem dL_935 : decode code 935 = .ok (.lcmp, 1) := by decide +kernel
theorem dL_936 : decode code 936 = .ok (.ifCond .eq 77, 3) := by decide +kernel
theorem dL_939 : decode code 939 = .ok (.iconst 0, 1) := by decide +kernel
theorem dL_940 : decode code 940 = .ok (.ireturn, 1) := by decide +kernel
theorem dL_941 : decode code 941 = .ok (.aload_n 1, 1) := by decide +kernel
theorem dL_942 : decode code 942 = .ok (.aload_n 0, 1) := by decide +kernel
theorem dL_943 : decode code 943 = .ok (.iload_n 3, 1) := by decide +kernel
theorem dL_944 : decode code 944 = .ok (.iconst 1, 1) := by decide +kernel
theorem dL_945 : decode code 945 = .ok (.iadd, 1) := by decide +kernel
theorem dL_946 : decode code 946 = .ok (.iaload, 1) := by decide +kernel
theorem dL_947 : decode code 947 = .ok (.invokevirtual 126, 3) := by decide +kernel
theorem dL_950 : decode code 950 = .ok (.aload_n 2, 1) := by decide +kernel
theorem dL_951 : decode code 951 = .ok (.aload_n 0, 1) := by decide +kernel
theorem dL_952 : decode code 952 = .ok (.iload_n 3, 1) := by decide +kernel
theorem dL_953 : decode code 953 = .ok (.iconst 1, 1) := by decide +kernel
theorem dL_954 : decode code 954 = .ok (.iadd, 1) := by decide +kernel
theorem dL_955 : decode code 955 = .ok (.iaload, 1) := by decide +kernel
theorem dL_956 : decode code 956 = .ok (.invokevirtual 129, 3) := by decide +kernel
theorem dL_959 : decode code 959 = .ok (.if_icmp .eq 54, 3) := by decide +kernel
theorem dL_962 : decode code 962 = .ok (.iconst 0, 1) := by decide +kernel
theorem dL_963 : decode code 963 = .ok (.ireturn, 1) := by decide +kernel
theorem dL_964 : decode code 964 = .ok (.aload_n 1, 1) := by decide +kernel
theorem dL_965 : decode code 965 = .ok (.aload_n 0, 1) := by decide +kernel
theorem dL_966 : decode code 966 = .ok (.iload_n 3, 1) := by decide +kernel
theorem dL_967 : decode code 967 = .ok (.iconst 1, 1) := by decide +kernel
theorem dL_968 : decode code 968 = .ok (.iadd, 1) := by decide +kernel
theorem dL_969 : decode code 969 = .ok (.iaload, 1) := by decide +kernel
theorem dL_970 : decode code 970 = .ok (.invokevirtual 130, 3) := by decide +kernel
theorem dL_973 : decode code 973 = .ok (.aload_n 2, 1) := by decide +kernel
theorem dL_974 : decode code 974 = .ok (.aload_n 0, 1) := by decide +kernel
theorem dL_975 : decode code 975 = .ok (.iload_n 3, 1) := by decide +kernel
theorem dL_976 : decode code 976 = .ok (.iconst 1, 1) := by decide +kernel
theorem dL_977 : decode code 977 = .ok (.iadd, 1) := by decide +kernel
theorem dL_978 : decode code 978 = .ok (.iaload, 1) := by decide +kernel
theorem dL_979 : decode code 979 = .ok (.invokevirtual 133, 3) := by decide +kernel
theorem dL_982 : decode code 982 = .ok (.if_icmp .eq 31, 3) := by decide +kernel
theorem dL_985 : decode code 985 = .ok (.iconst 0, 1) := by decide +kernel
theorem dL_986 : decode code 986 = .ok (.ireturn, 1) := by decide +kernel
theorem dL_987 : decode code 987 = .ok (.aload_n 1, 1) := by decide +kernel
theorem dL_988 : decode code 988 = .ok (.invokevirtual 134, 3) := by decide +kernel
theorem dL_991 : decode code 991 = .ok (.aload_n 2, 1) := by decide +kernel
theorem dL_992 : decode code 992 = .ok (.invokevirtual 137, 3) := by decide +kernel
theorem dL_995 : decode code 995 = .ok (.if_icmp .eq 18, 3) := by decide +kernel
theorem dL_998 : decode code 998 = .ok (.iconst 0, 1) := by decide +kernel
theorem dL_999 : decode code 999 = .ok (.ireturn, 1) := by decide +kernel
theorem dL_1000 : decode code 1000 = .ok (.aload_n 1, 1) := by decide +kernel
theorem dL_1001 : decode code 1001 = .ok (.invokevirtual 138, 3) := by decide +kernel
theorem dL_1004 : decode code 1004 = .ok (.aload_n 2, 1) := by decide +kernel
theorem dL_1005 : decode code 1005 = .ok (.invokevirtual 141, 3) := by decide +kernel
theorem dL_1008 : decode code 1008 = .ok (.if_icmp .eq 5, 3) := by decide +kernel
theorem dL_1011 : decode code 1011 = .ok (.iconst 0, 1) := by decide +kernel
theorem dL_1012 : decode code 1012 = .ok (.ireturn, 1) := by decide +kernel
theorem dL_1013 : decode code 1013 = .ok (.iinc 3 5, 3) := by decide +kernel
theorem dL_1016 : decode code 1016 = .ok (.goto (-998), 3) := by decide +kernel
theorem dL_1019 : decode code 1019 = .ok (.iconst 1, 1) := by decide +kernel
theorem dL_1020 : decode code 1020 = .ok (.ireturn, 1) := by decide +kernel
