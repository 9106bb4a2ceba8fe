theorem dL_law__622 : decode cL_law_ 622 = .ok (.ireturn, 1) := by decide +kernel
theorem dL_law__623 : decode cL_law_ 623 = .ok (.iload 5, 2) := by decide +kernel
theorem dL_law__625 : decode cL_law_ 625 = .ok (.ifCond .ne 15, 3) := by decide +kernel
theorem dL_law__628 : decode cL_law_ 628 = .ok (.aload_n 3, 1) := by decide +kernel
theorem dL_law__629 : decode cL_law_ 629 = .ok (.iconst 0, 1) := by decide +kernel
theorem dL_law__630 : decode cL_law_ 630 = .ok (.laload, 1) := by decide +kernel
theorem dL_law__631 : decode cL_law_ 631 = .ok (.iload 6, 2) := by decide +kernel
theorem dL_law__633 : decode cL_law_ 633 = .ok (.i2l, 1) := by decide +kernel
theorem dL_law__634 : decode cL_law_ 634 = .ok (.lcmp, 1) := by decide +kernel
theorem dL_law__635 : decode cL_law_ 635 = .ok (.ifCond .eq 5, 3) := by decide +kernel
theorem dL_law__638 : decode cL_law_ 638 = .ok (.iconst 0, 1) := by decide +kernel
theorem dL_law__639 : decode cL_law_ 639 = .ok (.ireturn, 1) := by decide +kernel
theorem dL_law__640 : decode cL_law_ 640 = .ok (.goto 1712, 3) := by decide +kernel
theorem dL_law__643 : decode cL_law_ 643 = .ok (.aload_n 1, 1) := by decide +kernel
theorem dL_law__644 : decode cL_law_ 644 = .ok (.aload_n 0, 1) := by decide +kernel
theorem dL_law__645 : decode cL_law_ 645 = .ok (.iload 4, 2) := by decide +kernel
theorem dL_law__647 : decode cL_law_ 647 = .ok (.iconst 1, 1) := by decide +kernel
theorem dL_law__648 : decode cL_law_ 648 = .ok (.iadd, 1) := by decide +kernel
theorem dL_law__649 : decode cL_law_ 649 = .ok (.iaload, 1) := by decide +kernel
theorem dL_law__650 : decode cL_law_ 650 = .ok (.aload_n 0, 1) := by decide +kernel
theorem dL_law__651 : decode cL_law_ 651 = .ok (.iload 4, 2) := by decide +kernel
theorem dL_law__653 : decode cL_law_ 653 = .ok (.iconst 2, 1) := by decide +kernel
theorem dL_law__654 : decode cL_law_ 654 = .ok (.iadd, 1) := by decide +kernel
theorem dL_law__655 : decode cL_law_ 655 = .ok (.iaload, 1) := by decide +kernel
theorem dL_law__656 : decode cL_law_ 656 = .ok (.aload_n 3, 1) := by decide +kernel
theorem dL_law__657 : decode cL_law_ 657 = .ok (.invokestatic 146, 3) := by decide +kernel
theorem dL_law__660 : decode cL_law_ 660 = .ok (.istore 5, 2) := by decide +kernel
theorem dL_law__662 : decode cL_law_ 662 = .ok (.aload_n 2, 1) := by decide +kernel
theorem dL_law__663 : decode cL_law_ 663 = .ok (.aload_n 0, 1) := by decide +kernel
theorem dL_law__664 : decode cL_law_ 664 = .ok (.iload 4, 2) := by decide +kernel
theorem dL_law__666 : decode cL_law_ 666 = .ok (.iconst 1, 1) := by decide +kernel
theorem dL_law__667 : decode cL_law_ 667 = .ok (.iadd, 1) := by decide +kernel
theorem dL_law__668 : decode cL_law_ 668 = .ok (.iaload, 1) := by decide +kernel
theorem dL_law__669 : decode cL_law_ 669 = .ok (.aload_n 0, 1) := by decide +kernel
theorem dL_law__670 : decode cL_law_ 670 = .ok (.iload 4, 2) := by decide +kernel
theorem dL_law__672 : decode cL_law_ 672 = .ok (.iconst 2, 1) := by decide +kernel
theorem dL_law__673 : decode cL_law_ 673 = .ok (.iadd, 1) := by decide +kernel
theorem dL_law__674 : decode cL_law_ 674 = .ok (.iaload, 1) := by decide +kernel
theorem dL_law__675 : decode cL_law_ 675 = .ok (.invokevirtual 148, 3) := by decide +kernel
theorem dL_law__678 : decode cL_law_ 678 = .ok (.istore 6, 2) := by decide +kernel
theorem dL_law__680 : decode cL_law_ 680 = .ok (.aload_n 2, 1) := by decide +kernel
theorem dL_law__681 : decode cL_law_ 681 = .ok (.invokevirtual 118, 3) := by decide +kernel
theorem dL_law__684 : decode cL_law_ 684 = .ok (.iload 5, 2) := by decide +kernel
theorem dL_law__686 : decode cL_law_ 686 = .ok (.if_icmp .eq 5, 3) := by decide +kernel
theorem dL_law__689 : decode cL_law_ 689 = .ok (.iconst 0, 1) := by decide +kernel
theorem dL_law__690 : decode cL_law_ 690 = .ok (.ireturn, 1) := by decide +kernel
theorem dL_law__691 : decode cL_law_ 691 = .ok (.iload 5, 2) := by decide +kernel
theorem dL_law__693 : decode cL_law_ 693 = .ok (.ifCond .ne 15, 3) := by decide +kernel
theorem dL_law__696 : decode cL_law_ 696 = .ok (.aload_n 3, 1) := by decide +kernel
theorem dL_law__697 : decode cL_law_ 697 = .ok (.iconst 0, 1) := by decide +kernel
theorem dL_law__698 : decode cL_law_ 698 = .ok (.laload, 1) := by decide +kernel
theorem dL_law__699 : decode cL_law_ 699 = .ok (.iload 6, 2) := by decide +kernel
theorem dL_law__701 : decode cL_law_ 701 = .ok (.i2l, 1) := by decide +kernel
theorem dL_law__702 : decode cL_law_ 702 = .ok (.lcmp, 1) := by decide +kernel
theorem dL_law__703 : decode cL_law_ 703 = .ok (.ifCond .eq 5, 3) := by decide +kernel
theorem dL_law__706 : decode cL_law_ 706 = .ok (.iconst 0, 1) := by decide +kernel
theorem dL_law__707 : decode cL_law_ 707 = .ok (.ireturn, 1) := by decide +kernel
theorem dL_law__708 : decode cL_law_ 708 = .ok (.goto 1644, 3) := by decide +kernel
theorem dL_law__711 : decode cL_law_ 711 = .ok (.aload_n 1, 1) := by decide +kernel
theorem dL_law__712 : decode cL_law_ 712 = .ok (.aload_n 0, 1) := by decide +kernel
theorem dL_law__713 : decode cL_law_ 713 = .ok (.iload 4, 2) := by decide +kernel
theorem dL_law__715 : decode cL_law_ 715 = .ok (.iconst 1, 1) := by decide +kernel
theorem dL_law__716 : decode cL_law_ 716 = .ok (.iadd, 1) := by decide +kernel
theorem dL_law__717 : decode cL_law_ 717 = .ok (.iaload, 1) := by decide +kernel
theorem dL_law__718 : decode cL_law_ 718 = .ok (.aload_n 0, 1) := by decide +kernel
theorem dL_law__719 : decode cL_law_ 719 = .ok (.iload 4, 2) := by decide +kernel
theorem dL_law__721 : decode cL_law_ 721 = .ok (.iconst 2, 1) := by decide +kernel
theorem dL_law__722 : decode cL_law_ 722 = .ok (.iadd, 1) := by decide +kernel
theorem dL_law__723 : decode cL_law_ 723 = .ok (.iaload, 1) := by decide +kernel
theorem dL_law__724 : decode cL_law_ 724 = .ok (.aload_n 3, 1) := by decide +kernel
theorem dL_law__725 : decode cL_law_ 725 = .ok (.invokestatic 149, 3) := by decide +kernel
theorem dL_law__728 : decode cL_law_ 728 = .ok (.istore 5, 2) := by decide +kernel
theorem dL_law__730 : decode cL_law_ 730 = .ok (.aload_n 2, 1) := by decide +kernel
theorem dL_law__731 : decode cL_law_ 731 = .ok (.aload_n 0, 1) := by decide +kernel
theorem dL_law__732 : decode cL_law_ 732 = .ok (.iload 4, 2) := by decide +kernel
theorem dL_law__734 : decode cL_law_ 734 = .ok (.iconst 1, 1) := by decide +kernel
theorem dL_law__735 : decode cL_law_ 735 = .ok (.iadd, 1) := by decide +kernel
theorem dL_law__736 : decode cL_law_ 736 = .ok (.iaload, 1) := by decide +kernel
theorem dL_law__737 : decode cL_law_ 737 = .ok (.aload_n 0, 1) := by decide +kernel
theorem dL_law__738 : decode cL_law_ 738 = .ok (.iload 4, 2) := by decide +kernel
theorem dL_law__740 : decode cL_law_ 740 = .ok (.iconst 2, 1) := by decide +kernel
theorem dL_law__741 : decode cL_law_ 741 = .ok (.iadd, 1) := by decide +kernel
theorem dL_law__742 : decode cL_law_ 742 = .ok (.iaload, 1) := by decide +kernel
theorem dL_law__743 : decode cL_law_ 743 = .ok (.invokevirtual 151, 3) := by decide +kernel
theorem dL_law__746 : decode cL_law_ 746 = .ok (.istore 6, 2) := by decide +kernel
theorem dL_law__748 : decode cL_law_ 748 = .ok (.aload_n 2, 1) := by decide +kernel
theorem dL_law__749 : decode cL_law_ 749 = .ok (.invokevirtual 118, 3) := by decide +kernel
theorem dL_law__752 : decode cL_law_ 752 = .ok (.iload 5, 2) := by decide +kernel
theorem dL_law__754 : decode cL_law_ 754 = .ok (.if_icmp .eq 5, 3) := by decide +kernel
theorem dL_law__757 : decode cL_law_ 757 = .ok (.iconst 0, 1) := by decide +kernel
theorem dL_law__758 : decode cL_law_ 758 = .ok (.ireturn, 1) := by decide +kernel
theorem dL_law__759 : decode cL_law_ 759 = .ok (.iload 5, 2) := by decide +kernel
theorem dL_law__761 : decode cL_law_ 761 = .ok (.ifCond .ne 15, 3) := by decide +kernel
theorem dL_law__764 : decode cL_law_ 764 = .ok (.aload_n 3, 1) := by decide +kernel
theorem dL_law__765 : decode cL_law_ 765 = .ok (.iconst 0, 1) := by decide +kernel
theorem dL_law__766 : decode cL_law_ 766 = .ok (.laload, 1) := by decide +kernel
theorem dL_law__767 : decode cL_law_ 767 = .ok (.iload 6, 2) := by decide +kernel
theorem dL_law__769 : decode cL_law_ 769 = .ok (.i2l, 1) := by decide +kernel
theorem dL_law__770 : decode cL_law_ 770 = .ok (.lcmp, 1) := by decide +kernel
theorem dL_law__771 : decode cL_law_ 771 = .ok (.ifCond .eq 5, 3) := by decide +kernel
theorem dL_law__774 : decode cL_law_ 774 = .ok (.iconst 0, 1) := by decide +kernel
theorem dL_law__775 : decode cL_law_ 775 = .ok (.ireturn, 1) := by decide +kernel
theorem dL_law__776 : decode cL_law_ 776 = .ok (.goto 1576, 3) := by decide +kernel
theorem dL_law__779 : decode cL_law_ 779 = .ok (.aload_n 1, 1) := by decide +kernel
theorem dL_law__780 : decode cL_law_ 780 = .ok (.aload_n 0, 1) := by decide +kernel
theorem dL_law__781 : decode cL_law_ 781 = .ok (.iload 4, 2) := by decide +kernel
theorem dL_law__783 : decode cL_law_ 783 = .ok (.iconst 1, 1) := by decide +kernel
theorem dL_law__784 : decode cL_law_ 784 = .ok (.iadd, 1) := by decide +kernel
theorem dL_law__785 : decode cL_law_ 785 = .ok (.iaload, 1) := by decide +kernel
theorem dL_law__786 : decode cL_law_ 786 = .ok (.aload_n 3, 1) := by decide +kernel
theorem dL_law__787 : decode cL_law_ 787 = .ok (.invokestatic 152, 3) := by decide +kernel
theorem dL_law__790 : decode cL_law_ 790 = .ok (.istore 5, 2) := by decide +kernel
theorem dL_law__792 : decode cL_law_ 792 = .ok (.aload_n 2, 1) := by decide +kernel
theorem dL_law__793 : decode cL_law_ 793 = .ok (.aload_n 0, 1) := by decide +kernel
theorem dL_law__794 : decode cL_law_ 794 = .ok (.iload 4, 2) := by decide +kernel
theorem dL_law__796 : decode cL_law_ 796 = .ok (.iconst 1, 1) := by decide +kernel
theorem dL_law__797 : decode cL_law_ 797 = .ok (.iadd, 1) := by decide +kernel
theorem dL_law__798 : decode cL_law_ 798 = .ok (.iaload, 1) := by decide +kernel
theorem dL_law__799 : decode cL_law_ 799 = .ok (.invokevirtual 154, 3) := by decide +kernel
theorem dL_law__802 : decode cL_law_ 802 = .ok (.istore 6, 2) := by decide +kernel
theorem dL_law__804 : decode cL_law_ 804 = .ok (.aload_n 2, 1) := by decide +kernel
theorem dL_law__805 : decode cL_law_ 805 = .ok (.invokevirtual 118, 3) := by decide +kernel
theorem dL_law__808 : decode cL_law_ 808 = .ok (.iload 5, 2) := by decide +kernel
theorem dL_law__810 : decode cL_law_ 810 = .ok (.if_icmp .eq 5, 3) := by decide +kernel
theorem dL_law__813 : decode cL_law_ 813 = .ok (.iconst 0, 1) := by decide +kernel
theorem dL_law__814 : decode cL_law_ 814 = .ok (.ireturn, 1) := by decide +kernel
theorem dL_law__815 : decode cL_law_ 815 = .ok (.iload 5, 2) := by decide +kernel
theorem dL_law__817 : decode cL_law_ 817 = .ok (.ifCond .ne 15, 3) := by decide +kernel
theorem dL_law__820 : decode cL_law_ 820 = .ok (.aload_n 3, 1) := by decide +kernel
theorem dL_law__821 : decode cL_law_ 821 = .ok (.iconst 0, 1) := by decide +kernel
theorem dL_law__822 : decode cL_law_ 822 = .ok (.laload, 1) := by decide +kernel
theorem dL_law__823 : decode cL_law_ 823 = .ok (.iload 6, 2) := by decide +kernel
theorem dL_law__825 : decode cL_law_ 825 = .ok (.i2l, 1) := by decide +kernel
theorem dL_law__826 : decode cL_law_ 826 = .ok (.lcmp, 1) := by decide +kernel
theorem dL_law__827 : decode cL_law_ 827 = .ok (.ifCond .eq 5, 3) := by decide +kernel
theorem dL_law__830 : decode cL_law_ 830 = .ok (.iconst 0, 1) := by decide +kernel
theorem dL_law__831 : decode cL_law_ 831 = .ok (.ireturn, 1) := by decide +kernel
theorem dL_law__832 : decode cL_law_ 832 = .ok (.goto 1520, 3) := by decide +kernel
theorem dL_law__835 : decode cL_law_ 835 = .ok (.aload_n 1, 1) := by decide +kernel
theorem dL_law__836 : decode cL_law_ 836 = .ok (.aload_n 0, 1) := by decide +kernel
theorem dL_law__837 : decode cL_law_ 837 = .ok (.iload 4, 2) := by decide +kernel
theorem dL_law__839 : decode cL_law_ 839 = .ok (.iconst 1, 1) := by decide +kernel
theorem dL_law__840 : decode cL_law_ 840 = .ok (.iadd, 1) := by decide +kernel
theorem dL_law__841 : decode cL_law_ 841 = .ok (.iaload, 1) := by decide +kernel
theorem dL_law__842 : decode cL_law_ 842 = .ok (.aload_n 0, 1) := by decide +kernel
theorem dL_law__843 : decode cL_law_ 843 = .ok (.iload 4, 2) := by decide +kernel
theorem dL_law__845 : decode cL_law_ 845 = .ok (.iconst 2, 1) := by decide +kernel
theorem dL_law__846 : decode cL_law_ 846 = .ok (.iadd, 1) := by decide +kernel
theorem dL_law__847 : decode cL_law_ 847 = .ok (.iaload, 1) := by decide +kernel
theorem dL_law__848 : decode cL_law_ 848 = .ok (.aload_n 0, 1) := by decide +kernel
theorem dL_law__849 : decode cL_law_ 849 = .ok (.iload 4, 2) := by decide +kernel
theorem dL_law__851 : decode cL_law_ 851 = .ok (.iconst 3, 1) := by decide +kernel
theorem dL_law__852 : decode cL_law_ 852 = .ok (.iadd, 1) := by decide +kernel
theorem dL_law__853 : decode cL_law_ 853 = .ok (.iaload, 1) := by decide +kernel
theorem dL_law__854 : decode cL_law_ 854 = .ok (.aload_n 0, 1) := by decide +kernel
theorem dL_law__855 : decode cL_law_ 855 = .ok (.iload 4, 2) := by decide +kernel
theorem dL_law__857 : decode cL_law_ 857 = .ok (.iconst 4, 1) := by decide +kernel
theorem dL_law__858 : decode cL_law_ 858 = .ok (.iadd, 1) := by decide +kernel
theorem dL_law__859 : decode cL_law_ 859 = .ok (.iaload, 1) := by decide +kernel
theorem dL_law__860 : decode cL_law_ 860 = .ok (.aload_n 0, 1) := by decide +kernel
theorem dL_law__861 : decode cL_law_ 861 = .ok (.iload 4, 2) := by decide +kernel
theorem dL_law__863 : decode cL_law_ 863 = .ok (.iconst 5, 1) := by decide +kernel
theorem dL_law__864 : decode cL_law_ 864 = .ok (.iadd, 1) := by decide +kernel
theorem dL_law__865 : decode cL_law_ 865 = .ok (.iaload, 1) := by decide +kernel
theorem dL_law__866 : decode cL_law_ 866 = .ok (.aload_n 0, 1) := by decide +kernel
theorem dL_law__867 : decode cL_law_ 867 = .ok (.iload 4, 2) := by decide +kernel
theorem dL_law__869 : decode cL_law_ 869 = .ok (.bipush 6, 2) := by decide +kernel
theorem dL_law__871 : decode cL_law_ 871 = .ok (.iadd, 1) := by decide +kernel
theorem dL_law__872 : decode cL_law_ 872 = .ok (.iaload, 1) := by decide +kernel
theorem dL_law__873 : decode cL_law_ 873 = .ok (.aload_n 0, 1) := by decide +kernel
theorem dL_law__874 : decode cL_law_ 874 = .ok (.iload 4, 2) := by decide +kernel
theorem dL_law__876 : decode cL_law_ 876 = .ok (.bipush 7, 2) := by decide +kernel
theorem dL_law__878 : decode cL_law_ 878 = .ok (.iadd, 1) := by decide +kernel
theorem dL_law__879 : decode cL_law_ 879 = .ok (.iaload, 1) := by decide +kernel
theorem dL_law__880 : decode cL_law_ 880 = .ok (.aload_n 0, 1) := by decide +kernel
theorem dL_law__881 : decode cL_law_ 881 = .ok (.iload 4, 2) := by decide +kernel
theorem dL_law__883 : decode cL_law_ 883 = .ok (.bipush 8, 2) := by decide +kernel
theorem dL_law__885 : decode cL_law_ 885 = .ok (.iadd, 1) := by decide +kernel
theorem dL_law__886 : decode cL_law_ 886 = .ok (.iaload, 1) := by decide +kernel
theorem dL_law__887 : decode cL_law_ 887 = .ok (.aload_n 3, 1) := by decide +kernel
theorem dL_law__888 : decode cL_law_ 888 = .ok (.invokestatic 155, 3) := by decide +kernel
theorem dL_law__891 : decode cL_law_ 891 = .ok (.istore 5, 2) := by decide +kernel
theorem dL_law__893 : decode cL_law_ 893 = .ok (.aload_n 2, 1) := by decide +kernel
theorem dL_law__894 : decode cL_law_ 894 = .ok (.aload_n 0, 1) := by decide +kernel
theorem dL_law__895 : decode cL_law_ 895 = .ok (.iload 4, 2) := by decide +kernel
theorem dL_law__897 : decode cL_law_ 897 = .ok (.iconst 1, 1) := by decide +kernel
theorem dL_law__898 : decode cL_law_ 898 = .ok (.iadd, 1) := by decide +kernel
theorem dL_law__899 : decode cL_law_ 899 = .ok (.iaload, 1) := by decide +kernel
theorem dL_law__900 : decode cL_law_ 900 = .ok (.aload_n 0, 1) := by decide +kernel
theorem dL_law__901 : decode cL_law_ 901 = .ok (.iload 4, 2) := by decide +kernel
theorem dL_law__903 : decode cL_law_ 903 = .ok (.iconst 2, 1) := by decide +kernel
theorem dL_law__904 : decode cL_law_ 904 = .ok (.iadd, 1) := by decide +kernel
theorem dL_law__905 : decode cL_law_ 905 = .ok (.iaload, 1) := by decide +kernel
theorem dL_law__906 : decode cL_law_ 906 = .ok (.aload_n 0, 1) := by decide +kernel
theorem dL_law__907 : decode cL_law_ 907 = .ok (.iload 4, 2) := by decide +kernel
theorem dL_law__909 : decode cL_law_ 909 = .ok (.iconst 3, 1) := by decide +kernel
theorem dL_law__910 : decode cL_law_ 910 = .ok (.iadd, 1) := by decide +kernel
theorem dL_law__911 : decode cL_law_ 911 = .ok (.iaload, 1) := by decide +kernel
theorem dL_law__912 : decode cL_law_ 912 = .ok (.aload_n 0, 1) := by decide +kernel
theorem dL_law__913 : decode cL_law_ 913 = .ok (.iload 4, 2) := by decide +kernel
theorem dL_law__915 : decode cL_law_ 915 = .ok (.iconst 4, 1) := by decide +kernel
theorem dL_law__916 : decode cL_law_ 916 = .ok (.iadd, 1) := by decide +kernel
theorem dL_law__917 : decode cL_law_ 917 = .ok (.iaload, 1) := by decide +kernel
theorem dL_law__918 : decode cL_law_ 918 = .ok (.aload_n 0, 1) := by decide +kernel
theorem dL_law__919 : decode cL_law_ 919 = .ok (.iload 4, 2) := by decide +kernel
theorem dL_law__921 : decode cL_law_ 921 = .ok (.iconst 5, 1) := by decide +kernel
theorem dL_law__922 : decode cL_law_ 922 = .ok (.iadd, 1) := by decide +kernel
theorem dL_law__923 : decode cL_law_ 923 = .ok (.iaload, 1) := by decide +kernel
theorem dL_law__924 : decode cL_law_ 924 = .ok (.aload_n 0, 1) := by decide +kernel
theorem dL_law__925 : decode cL_law_ 925 = .ok (.iload 4, 2) := by decide +kernel
theorem dL_law__927 : decode cL_law_ 927 = .ok (.bipush 6, 2) := by decide +kernel
theorem dL_law__929 : decode cL_law_ 929 = .ok (.iadd, 1) := by decide +kernel
theorem dL_law__930 : decode cL_law_ 930 = .ok (.iaload, 1) := by decide +kernel
theorem dL_law__931 : decode cL_law_ 931 = .ok (.aload_n 0, 1) := by decide +kernel
theorem dL_law__932 : decode cL_law_ 932 = .ok (.iload 4, 2) := by decide +kernel
theorem dL_law__934 : decode cL_law_ 934 = .ok (.bipush 7, 2) := by decide +kernel
theorem dL_law__936 : decode cL_law_ 936 = .ok (.iadd, 1) := by decide +kernel
theorem dL_law__937 : decode cL_law_ 937 = .ok (.iaload, 1) := by decide +kernel
theorem dL_law__938 : decode cL_law_ 938 = .ok (.aload_n 0, 1) := by decide +kernel
theorem dL_law__939 : decode cL_law_ 939 = .ok (.iload 4, 2) := by decide +kernel
theorem dL_law__941 : decode cL_law_ 941 = .ok (.bipush 8, 2) := by decide +kernel
theorem dL_law__943 : decode cL_law_ 943 = .ok (.iadd, 1) := by decide +kernel
theorem dL_law__944 : decode cL_law_ 944 = .ok (.iaload, 1) := by decide +kernel
theorem dL_law__945 : decode cL_law_ 945 = .ok (.invokevirtual 158, 3) := by decide +kernel
theorem dL_law__948 : decode cL_law_ 948 = .ok (.istore 6, 2) := by decide +kernel
theorem dL_law__950 : decode cL_law_ 950 = .ok (.aload_n 2, 1) := by decide +kernel
theorem dL_law__951 : decode cL_law_ 951 = .ok (.invokevirtual 118, 3) := by decide +kernel
theorem dL_law__954 : decode cL_law_ 954 = .ok (.iload 5, 2) := by decide +kernel
theorem dL_law__956 : decode cL_law_ 956 = .ok (.if_icmp .eq 5, 3) := by decide +kernel
theorem dL_law__959 : decode cL_law_ 959 = .ok (.iconst 0, 1) := by decide +kernel
theorem dL_law__960 : decode cL_law_ 960 = .ok (.ireturn, 1) := by decide +kernel
theorem dL_law__961 : decode cL_law_ 961 = .ok (.iload 5, 2) := by decide +kernel
theorem dL_law__963 : decode cL_law_ 963 = .ok (.ifCond .ne 15, 3) := by decide +kernel
theorem dL_law__966 : decode cL_law_ 966 = .ok (.aload_n 3, 1) := by decide +kernel
theorem dL_law__967 : decode cL_law_ 967 = .ok (.iconst 0, 1) := by decide +kernel
theorem dL_law__968 : decode cL_law_ 968 = .ok (.laload, 1) := by decide +kernel
theorem dL_law__969 : decode cL_law_ 969 = .ok (.iload 6, 2) := by decide +kernel
theorem dL_law__971 : decode cL_law_ 971 = .ok (.i2l, 1) := by decide +kernel
theorem dL_law__972 : decode cL_law_ 972 = .ok (.lcmp, 1) := by decide +kernel
theorem dL_law__973 : decode cL_law_ 973 = .ok (.ifCond .eq 5, 3) := by decide +kernel
theorem dL_law__976 : decode cL_law_ 976 = .ok (.iconst 0, 1) := by decide +kernel
theorem dL_law__977 : decode cL_law_ 977 = .ok (.ireturn, 1) := by decide +kernel
theorem dL_law__978 : decode cL_law_ 978 = .ok (.goto 1374, 3) := by decide +kernel
theorem dL_law__981 : decode cL_law_ 981 = .ok (.aload_n 1, 1) := by decide +kernel
theorem dL_law__982 : decode cL_law_ 982 = .ok (.aload_n 0, 1) := by decide +kernel
theorem dL_law__983 : decode cL_law_ 983 = .ok (.iload 4, 2) := by decide +kernel
theorem dL_law__985 : decode cL_law_ 985 = .ok (.iconst 1, 1) := by decide +kernel
theorem dL_law__986 : decode cL_law_ 986 = .ok (.iadd, 1) := by decide +kernel
theorem dL_law__987 : decode cL_law_ 987 = .ok (.iaload, 1) := by decide +kernel
theorem dL_law__988 : decode cL_law_ 988 = .ok (.aload_n 0, 1) := by decide +kernel
theorem dL_law__989 : decode cL_law_ 989 = .ok (.iload 4, 2) := by decide +kernel
theorem dL_law__991 : decode cL_law_ 991 = .ok (.iconst 2, 1) := by decide +kernel
theorem dL_law__992 : decode cL_law_ 992 = .ok (.iadd, 1) := by decide +kernel
theorem dL_law__993 : decode cL_law_ 993 = .ok (.iaload, 1) := by decide +kernel
theorem dL_law__994 : decode cL_law_ 994 = .ok (.aload_n 3, 1) := by decide +kernel
theorem dL_law__995 : decode cL_law_ 995 = .ok (.invokestatic 159, 3) := by decide +kernel
theorem dL_law__998 : decode cL_law_ 998 = .ok (.istore 5, 2) := by decide +kernel
theorem dL_law__1000 : decode cL_law_ 1000 = .ok (.aload_n 2, 1) := by decide +kernel
theorem dL_law__1001 : decode cL_law_ 1001 = .ok (.aload_n 0, 1) := by decide +kernel
theorem dL_law__1002 : decode cL_law_ 1002 = .ok (.iload 4, 2) := by decide +kernel
theorem dL_law__1004 : decode cL_law_ 1004 = .ok (.iconst 1, 1) := by decide +kernel
theorem dL_law__1005 : decode cL_law_ 1005 = .ok (.iadd, 1) := by decide +kernel
theorem dL_law__1006 : decode cL_law_ 1006 = .ok (.iaload, 1) := by decide +kernel
theorem dL_law__1007 : decode cL_law_ 1007 = .ok (.aload_n 0, 1) := by decide +kernel
theorem dL_law__1008 : decode cL_law_ 1008 = .ok (.iload 4, 2) := by decide +kernel
theorem dL_law__1010 : decode cL_law_ 1010 = .ok (.iconst 2, 1) := by decide +kernel
theorem dL_law__1011 : decode cL_law_ 1011 = .ok (.iadd, 1) := by decide +kernel
theorem dL_law__1012 : decode cL_law_ 1012 = .ok (.iaload, 1) := by decide +kernel
theorem dL_law__1013 : decode cL_law_ 1013 = .ok (.invokevirtual 161, 3) := by decide +kernel
theorem dL_law__1016 : decode cL_law_ 1016 = .ok (.istore 6, 2) := by decide +kernel
theorem dL_law__1018 : decode cL_law_ 1018 = .ok (.aload_n 2, 1) := by decide +kernel
theorem dL_law__1019 : decode cL_law_ 1019 = .ok (.invokevirtual 118, 3) := by decide +kernel
theorem dL_law__1022 : decode cL_law_ 1022 = .ok (.iload 5, 2) := by decide +kernel
theorem dL_law__1024 : decode cL_law_ 1024 = .ok (.if_icmp .eq 5, 3) := by decide +kernel
theorem dL_law__1027 : decode cL_law_ 1027 = .ok (.iconst 0, 1) := by decide +kernel
theorem dL_law__1028 : decode cL_law_ 1028 = .ok (.ireturn, 1) := by decide +kernel
theorem dL_law__1029 : decode cL_law_ 1029 = .ok (.iload 5, 2) := by decide +kernel
theorem dL_law__1031 : decode cL_law_ 1031 = .ok (.ifCond .ne 15, 3) := by decide +kernel
theorem dL_law__1034 : decode cL_law_ 1034 = .ok (.aload_n 3, 1) := by decide +kernel
theorem dL_law__1035 : decode cL_law_ 1035 = .ok (.iconst 0, 1) := by decide +kernel
theorem dL_law__1036 : decode cL_law_ 1036 = .ok (.laload, 1) := by decide +kernel
theorem dL_law__1037 : decode cL_law_ 1037 = .ok (.iload 6, 2) := by decide +kernel
theorem dL_law__1039 : decode cL_law_ 1039 = .ok (.i2l, 1) := by decide +kernel
theorem dL_law__1040 : decode cL_law_ 1040 = .ok (.lcmp, 1) := by decide +kernel
theorem dL_law__1041 : decode cL_law_ 1041 = .ok (.ifCond .eq 5, 3) := by decide +kernel
theorem dL_law__1044 : decode cL_law_ 1044 = .ok (.iconst 0, 1) := by decide +kernel
theorem dL_law__1045 : decode cL_law_ 1045 = .ok (.ireturn, 1) := by decide +kernel
theorem dL_law__1046 : decode cL_law_ 1046 = .ok (.goto 1306, 3) := by decide +kernel
theorem dL_law__1049 : decode cL_law_ 1049 = .ok (.aload_n 1, 1) := by decide +kernel
theorem dL_law__1050 : decode cL_law_ 1050 = .ok (.aload_n 0, 1) := by decide +kernel
theorem dL_law__1051 : decode cL_law_ 1051 = .ok (.iload 4, 2) := by decide +kernel
theorem dL_law__1053 : decode cL_law_ 1053 = .ok (.iconst 1, 1) := by decide +kernel
theorem dL_law__1054 : decode cL_law_ 1054 = .ok (.iadd, 1) := by decide +kernel
theorem dL_law__1055 : decode cL_law_ 1055 = .ok (.iaload, 1) := by decide +kernel
theorem dL_law__1056 : decode cL_law_ 1056 = .ok (.aload_n 3, 1) := by decide +kernel
theorem dL_law__1057 : decode cL_law_ 1057 = .ok (.invokestatic 162, 3) := by decide +kernel
theorem dL_law__1060 : decode cL_law_ 1060 = .ok (.istore 5, 2) := by decide +kernel
theorem dL_law__1062 : decode cL_law_ 1062 = .ok (.aload_n 2, 1) := by decide +kernel
theorem dL_law__1063 : decode cL_law_ 1063 = .ok (.aload_n 0, 1) := by decide +kernel
theorem dL_law__1064 : decode cL_law_ 1064 = .ok (.iload 4, 2) := by decide +kernel
theorem dL_law__1066 : decode cL_law_ 1066 = .ok (.iconst 1, 1) := by decide +kernel
theorem dL_law__1067 : decode cL_law_ 1067 = .ok (.iadd, 1) := by decide +kernel
theorem dL_law__1068 : decode cL_law_ 1068 = .ok (.iaload, 1) := by decide +kernel
theorem dL_law__1069 : decode cL_law_ 1069 = .ok (.invokevirtual 164, 3) := by decide +kernel
theorem dL_law__1072 : decode cL_law_ 1072 = .ok (.istore 6, 2) := by decide +kernel
theorem dL_law__1074 : decode cL_law_ 1074 = .ok (.aload_n 2, 1) := by decide +kernel
theorem dL_law__1075 : decode cL_law_ 1075 = .ok (.invokevirtual 118, 3) := by decide +kernel
theorem dL_law__1078 : decode cL_law_ 1078 = .ok (.iload 5, 2) := by decide +kernel
theorem dL_law__1080 : decode cL_law_ 1080 = .ok (.if_icmp .eq 5, 3) := by decide +kernel
theorem dL_law__1083 : decode cL_law_ 1083 = .ok (.iconst 0, 1) := by decide +kernel
theorem dL_law__1084 : decode cL_law_ 1084 = .ok (.ireturn, 1) := by decide +kernel
theorem dL_law__1085 : decode cL_law_ 1085 = .ok (.iload 5, 2) := by decide +kernel
theorem dL_law__1087 : decode cL_law_ 1087 = .ok (.ifCond .ne 15, 3) := by decide +kernel
theorem dL_law__1090 : decode cL_law_ 1090 = .ok (.aload_n 3, 1) := by decide +kernel
theorem dL_law__1091 : decode cL_law_ 1091 = .ok (.iconst 0, 1) := by decide +kernel
theorem dL_law__1092 : decode cL_law_ 1092 = .ok (.laload, 1) := by decide +kernel
theorem dL_law__1093 : decode cL_law_ 1093 = .ok (.iload 6, 2) := by decide +kernel
theorem dL_law__1095 : decode cL_law_ 1095 = .ok (.i2l, 1) := by decide +kernel
theorem dL_law__1096 : decode cL_law_ 1096 = .ok (.lcmp, 1) := by decide +kernel
theorem dL_law__1097 : decode cL_law_ 1097 = .ok (.ifCond .eq 5, 3) := by decide +kernel
theorem dL_law__1100 : decode cL_law_ 1100 = .ok (.iconst 0, 1) := by decide +kernel
theorem dL_law__1101 : decode cL_law_ 1101 = .ok (.ireturn, 1) := by decide +kernel
theorem dL_law__1102 : decode cL_law_ 1102 = .ok (.goto 1250, 3) := by decide +kernel
theorem dL_law__1105 : decode cL_law_ 1105 = .ok (.aload_n 1, 1) := by decide +kernel
theorem dL_law__1106 : decode cL_law_ 1106 = .ok (.aload_n 0, 1) := by decide +kernel
theorem dL_law__1107 : decode cL_law_ 1107 = .ok (.iload 4, 2) := by decide +kernel
theorem dL_law__1109 : decode cL_law_ 1109 = .ok (.iconst 1, 1) := by decide +kernel
theorem dL_law__1110 : decode cL_law_ 1110 = .ok (.iadd, 1) := by decide +kernel
theorem dL_law__1111 : decode cL_law_ 1111 = .ok (.iaload, 1) := by decide +kernel
theorem dL_law__1112 : decode cL_law_ 1112 = .ok (.aload_n 0, 1) := by decide +kernel
theorem dL_law__1113 : decode cL_law_ 1113 = .ok (.iload 4, 2) := by decide +kernel
theorem dL_law__1115 : decode cL_law_ 1115 = .ok (.iconst 2, 1) := by decide +kernel
theorem dL_law__1116 : decode cL_law_ 1116 = .ok (.iadd, 1) := by decide +kernel
theorem dL_law__1117 : decode cL_law_ 1117 = .ok (.iaload, 1) := by decide +kernel
theorem dL_law__1118 : decode cL_law_ 1118 = .ok (.aload_n 0, 1) := by decide +kernel
theorem dL_law__1119 : decode cL_law_ 1119 = .ok (.iload 4, 2) := by decide +kernel
theorem dL_law__1121 : decode cL_law_ 1121 = .ok (.iconst 3, 1) := by decide +kernel
theorem dL_law__1122 : decode cL_law_ 1122 = .ok (.iadd, 1) := by decide +kernel
theorem dL_law__1123 : decode cL_law_ 1123 = .ok (.iaload, 1) := by decide +kernel
theorem dL_law__1124 : decode cL_law_ 1124 = .ok (.aload_n 0, 1) := by decide +kernel
theorem dL_law__1125 : decode cL_law_ 1125 = .ok (.iload 4, 2) := by decide +kernel
theorem dL_law__1127 : decode cL_law_ 1127 = .ok (.iconst 4, 1) := by decide +kernel
theorem dL_law__1128 : decode cL_law_ 1128 = .ok (.iadd, 1) := by decide +kernel
theorem dL_law__1129 : decode cL_law_ 1129 = .ok (.iaload, 1) := by decide +kernel
theorem dL_law__1130 : decode cL_law_ 1130 = .ok (.aload_n 3, 1) := by decide +kernel
theorem dL_law__1131 : decode cL_law_ 1131 = .ok (.invokestatic 165, 3) := by decide +kernel
theorem dL_law__1134 : decode cL_law_ 1134 = .ok (.istore 5, 2) := by decide +kernel
theorem dL_law__1136 : decode cL_law_ 1136 = .ok (.aload_n 2, 1) := by decide +kernel
theorem dL_law__1137 : decode cL_law_ 1137 = .ok (.aload_n 0, 1) := by decide +kernel
theorem dL_law__1138 : decode cL_law_ 1138 = .ok (.iload 4, 2) := by decide +kernel
theorem dL_law__1140 : decode cL_law_ 1140 = .ok (.iconst 1, 1) := by decide +kernel
theorem dL_law__1141 : decode cL_law_ 1141 = .ok (.iadd, 1) := by decide +kernel
theorem dL_law__1142 : decode cL_law_ 1142 = .ok (.iaload, 1) := by decide +kernel
theorem dL_law__1143 : decode cL_law_ 1143 = .ok (.aload_n 0, 1) := by decide +kernel
theorem dL_law__1144 : decode cL_law_ 1144 = .ok (.iload 4, 2) := by decide +kernel
theorem dL_law__1146 : decode cL_law_ 1146 = .ok (.iconst 2, 1) := by decide +kernel
theorem dL_law__1147 : decode cL_law_ 1147 = .ok (.iadd, 1) := by decide +kernel
theorem dL_law__1148 : decode cL_law_ 1148 = .ok (.iaload, 1) := by decide +kernel
theorem dL_law__1149 : decode cL_law_ 1149 = .ok (.aload_n 0, 1) := by decide +kernel
theorem dL_law__1150 : decode cL_law_ 1150 = .ok (.iload 4, 2) := by decide +kernel
theorem dL_law__1152 : decode cL_law_ 1152 = .ok (.iconst 3, 1) := by decide +kernel
theorem dL_law__1153 : decode cL_law_ 1153 = .ok (.iadd, 1) := by decide +kernel
theorem dL_law__1154 : decode cL_law_ 1154 = .ok (.iaload, 1) := by decide +kernel
theorem dL_law__1155 : decode cL_law_ 1155 = .ok (.aload_n 0, 1) := by decide +kernel
theorem dL_law__1156 : decode cL_law_ 1156 = .ok (.iload 4, 2) := by decide +kernel
theorem dL_law__1158 : decode cL_law_ 1158 = .ok (.iconst 4, 1) := by decide +kernel
theorem dL_law__1159 : decode cL_law_ 1159 = .ok (.iadd, 1) := by decide +kernel
theorem dL_law__1160 : decode cL_law_ 1160 = .ok (.iaload, 1) := by decide +kernel
theorem dL_law__1161 : decode cL_law_ 1161 = .ok (.invokevirtual 168, 3) := by decide +kernel
theorem dL_law__1164 : decode cL_law_ 1164 = .ok (.istore 6, 2) := by decide +kernel
theorem dL_law__1166 : decode cL_law_ 1166 = .ok (.aload_n 2, 1) := by decide +kernel
theorem dL_law__1167 : decode cL_law_ 1167 = .ok (.invokevirtual 118, 3) := by decide +kernel
theorem dL_law__1170 : decode cL_law_ 1170 = .ok (.iload 5, 2) := by decide +kernel
theorem dL_law__1172 : decode cL_law_ 1172 = .ok (.if_icmp .eq 5, 3) := by decide +kernel
theorem dL_law__1175 : decode cL_law_ 1175 = .ok (.iconst 0, 1) := by decide +kernel
theorem dL_law__1176 : decode cL_law_ 1176 = .ok (.ireturn, 1) := by decide +kernel
theorem dL_law__1177 : decode cL_law_ 1177 = .ok (.iload 5, 2) := by decide +kernel
theorem dL_law__1179 : decode cL_law_ 1179 = .ok (.ifCond .ne 15, 3) := by decide +kernel
theorem dL_law__1182 : decode cL_law_ 1182 = .ok (.aload_n 3, 1) := by decide +kernel
theorem dL_law__1183 : decode cL_law_ 1183 = .ok (.iconst 0, 1) := by decide +kernel
theorem dL_law__1184 : decode cL_law_ 1184 = .ok (.laload, 1) := by decide +kernel
theorem dL_law__1185 : decode cL_law_ 1185 = .ok (.iload 6, 2) := by decide +kernel
theorem dL_law__1187 : decode cL_law_ 1187 = .ok (.i2l, 1) := by decide +kernel
theorem dL_law__1188 : decode cL_law_ 1188 = .ok (.lcmp, 1) := by decide +kernel
theorem dL_law__1189 : decode cL_law_ 1189 = .ok (.ifCond .eq 5, 3) := by decide +kernel
theorem dL_law__1192 : decode cL_law_ 1192 = .ok (.iconst 0, 1) := by decide +kernel
theorem dL_law__1193 : decode cL_law_ 1193 = .ok (.ireturn, 1) := by decide +kernel
theorem dL_law__1194 : decode cL_law_ 1194 = .ok (.goto 1158, 3) := by decide +kernel
theorem dL_law__1197 : decode cL_law_ 1197 = .ok (.aload_n 1, 1) := by decide +kernel
theorem dL_law__1198 : decode cL_law_ 1198 = .ok (.aload_n 0, 1) := by decide +kernel
theorem dL_law__1199 : decode cL_law_ 1199 = .ok (.iload 4, 2) := by decide +kernel
theorem dL_law__1201 : decode cL_law_ 1201 = .ok (.iconst 1, 1) := by decide +kernel
theorem dL_law__1202 : decode cL_law_ 1202 = .ok (.iadd, 1) := by decide +kernel
theorem dL_law__1203 : decode cL_law_ 1203 = .ok (.iaload, 1) := by decide +kernel
theorem dL_law__1204 : decode cL_law_ 1204 = .ok (.aload_n 3, 1) := by decide +kernel
theorem dL_law__1205 : decode cL_law_ 1205 = .ok (.invokestatic 169, 3) := by decide +kernel
theorem dL_law__1208 : decode cL_law_ 1208 = .ok (.istore 5, 2) := by decide +kernel
theorem dL_law__1210 : decode cL_law_ 1210 = .ok (.aload_n 2, 1) := by decide +kernel
theorem dL_law__1211 : decode cL_law_ 1211 = .ok (.aload_n 0, 1) := by decide +kernel
theorem dL_law__1212 : decode cL_law_ 1212 = .ok (.iload 4, 2) := by decide +kernel
