-- STAND-INS
theorem n : True := trivial
theorem i : True := trivial
theorem k : True := trivial
theorem q : True := trivial
theorem u : True := trivial
theorem v : True := trivial
theorem w : True := trivial
theorem j : True := trivial
theorem o : True := trivial
theorem a : True := trivial
theorem b : True := trivial
theorem y : True := trivial
theorem z : True := trivial
theorem r : True := trivial
theorem t : True := trivial
theorem f : True := trivial
theorem g : True := trivial
theorem o2 : True := trivial
theorem a2 : True := trivial
theorem hlt : True := trivial
theorem hltk : True := trivial
theorem hlt3 : True := trivial
theorem hlt4 : True := trivial
theorem hn : True := trivial
theorem hq : True := trivial
theorem hm : True := trivial
theorem hi : True := trivial
theorem hi2 : True := trivial
theorem hi3 : True := trivial
theorem hk : True := trivial
theorem hj : True := trivial
theorem hb : True := trivial
theorem hs : True := trivial
theorem hw : True := trivial
theorem hx : True := trivial
theorem hz : True := trivial
theorem hv : True := trivial
theorem hr : True := trivial
theorem hc : True := trivial
theorem hu : True := trivial
theorem hp : True := trivial
theorem hl : True := trivial
theorem hh : True := trivial
theorem e : True := trivial
theorem e9 : True := trivial
theorem sh : True := trivial
theorem a0 : True := trivial
theorem c9 : True := trivial
theorem k9 : True := trivial
theorem m9 : True := trivial
theorem mm : True := trivial
theorem ha : True := trivial
theorem ho : True := trivial
theorem hS : True := trivial
theorem ha0 : True := trivial
theorem hs9 : True := trivial
theorem hk0 : True := trivial
theorem hk1 : True := trivial
theorem hk9 : True := trivial
theorem hap : True := trivial
theorem hoo : True := trivial
theorem qh : True := trivial
theorem ex : True := trivial
theorem ih : True := trivial
theorem ihk : True := trivial
theorem ih1 : True := trivial
theorem ih2 : True := trivial
theorem ih3 : True := trivial
theorem ih4 : True := trivial
theorem ihj : True := trivial
theorem st : True := trivial
theorem lst : True := trivial
theorem args0 : True := trivial
theorem hcn : True := trivial
theorem hcir : True := trivial
theorem q8 : True := trivial
theorem z8 : True := trivial
theorem h0 : True := trivial
theorem h1 : True := trivial
theorem h2 : True := trivial
theorem h3 : True := trivial
theorem h4 : True := trivial
theorem h5 : True := trivial
theorem h7 : True := trivial
theorem h10 : True := trivial
theorem h11 : True := trivial
theorem h12 : True := trivial
theorem h13 : True := trivial
theorem h14 : True := trivial
theorem h15 : True := trivial
theorem h16 : True := trivial
theorem h17 : True := trivial
theorem h18 : True := trivial
theorem h19 : True := trivial
theorem h20 : True := trivial
theorem h21 : True := trivial
theorem h22 : True := trivial
theorem h23 : True := trivial
theorem h24 : True := trivial
theorem h25 : True := trivial
theorem h26 : True := trivial
theorem h27 : True := trivial
theorem h28 : True := trivial
theorem h29 : True := trivial
theorem h30 : True := trivial
theorem h31 : True := trivial
theorem h32 : True := trivial
theorem h33 : True := trivial
theorem h34 : True := trivial
theorem h35 : True := trivial
theorem h36 : True := trivial
theorem h37 : True := trivial
theorem h38 : True := trivial
theorem h39 : True := trivial
theorem h40 : True := trivial
theorem h41 : True := trivial
theorem h42 : True := trivial
theorem h43 : True := trivial
theorem h44 : True := trivial
theorem h45 : True := trivial
theorem h46 : True := trivial
theorem h47 : True := trivial
theorem h48 : True := trivial
theorem h49 : True := trivial
theorem h50 : True := trivial
theorem h51 : True := trivial
theorem h52 : True := trivial
theorem h53 : True := trivial
theorem h54 : True := trivial
theorem h55 : True := trivial
theorem h56 : True := trivial
theorem h57 : True := trivial
theorem h58 : True := trivial
theorem h59 : True := trivial
theorem h60 : True := trivial
theorem h61 : True := trivial
theorem h62 : True := trivial
theorem h63 : True := trivial
theorem h64 : True := trivial
theorem h65 : True := trivial
theorem h66 : True := trivial
theorem h67 : True := trivial
theorem h68 : True := trivial
theorem h69 : True := trivial
theorem h70 : True := trivial
theorem h71 : True := trivial
theorem h72 : True := trivial
theorem h73 : True := trivial
theorem h74 : True := trivial
theorem h75 : True := trivial
theorem h76 : True := trivial
theorem h77 : True := trivial
theorem h78 : True := trivial
theorem h79 : True := trivial
theorem h80 : True := trivial
theorem h81 : True := trivial
theorem h82 : True := trivial
theorem h83 : True := trivial
theorem h84 : True := trivial
theorem h85 : True := trivial
theorem h86 : True := trivial
theorem h87 : True := trivial
theorem h88 : True := trivial
theorem h89 : True := trivial
theorem h90 : True := trivial
theorem h91 : True := trivial
theorem h92 : True := trivial
theorem h93 : True := trivial
theorem h94 : True := trivial
theorem h95 : True := trivial
theorem h96 : True := trivial
theorem h97 : True := trivial
theorem h98 : True := trivial
theorem h99 : True := trivial
theorem h100 : True := trivial
theorem h101 : True := trivial
theorem h102 : True := trivial
theorem h103 : True := trivial
theorem h104 : True := trivial
theorem h105 : True := trivial
theorem h106 : True := trivial
theorem h107 : True := trivial
theorem h108 : True := trivial
theorem h109 : True := trivial
theorem h110 : True := trivial
theorem h111 : True := trivial
theorem h112 : True := trivial
theorem h113 : True := trivial
theorem h114 : True := trivial
theorem h115 : True := trivial
theorem h116 : True := trivial
theorem h117 : True := trivial
theorem h118 : True := trivial
theorem h119 : True := trivial
theorem h120 : True := trivial
theorem h121 : True := trivial
theorem h122 : True := trivial
theorem h123 : True := trivial
theorem h124 : True := trivial
theorem h125 : True := trivial
theorem h126 : True := trivial
theorem h127 : True := trivial
theorem h128 : True := trivial
theorem h129 : True := trivial
theorem h130 : True := trivial
theorem h131 : True := trivial
theorem h132 : True := trivial
theorem h133 : True := trivial
theorem h134 : True := trivial
theorem h135 : True := trivial
theorem h136 : True := trivial
theorem h137 : True := trivial
theorem h138 : True := trivial
theorem h139 : True := trivial
theorem h140 : True := trivial
theorem h141 : True := trivial
theorem h142 : True := trivial
theorem h143 : True := trivial
theorem h144 : True := trivial
theorem h145 : True := trivial
theorem h146 : True := trivial
theorem h147 : True := trivial
theorem h148 : True := trivial
theorem h149 : True := trivial
theorem h150 : True := trivial
theorem h151 : True := trivial
theorem h152 : True := trivial
theorem h153 : True := trivial
theorem h154 : True := trivial
theorem h155 : True := trivial
theorem h156 : True := trivial
theorem h157 : True := trivial
theorem h158 : True := trivial
theorem h159 : True := trivial
theorem h160 : True := trivial
theorem h161 : True := trivial
theorem h162 : True := trivial
theorem h163 : True := trivial
theorem h164 : True := trivial
theorem h165 : True := trivial
theorem h166 : True := trivial
theorem h167 : True := trivial
theorem h168 : True := trivial
theorem h169 : True := trivial
theorem h170 : True := trivial
theorem h171 : True := trivial
theorem h172 : True := trivial
theorem h173 : True := trivial
theorem h174 : True := trivial
theorem h175 : True := trivial
theorem h176 : True := trivial
theorem h177 : True := trivial
theorem h178 : True := trivial
theorem h179 : True := trivial
theorem h180 : True := trivial
theorem h181 : True := trivial
theorem h182 : True := trivial
theorem h183 : True := trivial
theorem h184 : True := trivial
theorem h185 : True := trivial
theorem h186 : True := trivial
theorem h187 : True := trivial
theorem h188 : True := trivial
theorem h189 : True := trivial
theorem h190 : True := trivial
theorem h191 : True := trivial
theorem h192 : True := trivial
theorem h193 : True := trivial
theorem h194 : True := trivial
theorem h195 : True := trivial
theorem h196 : True := trivial
theorem h197 : True := trivial
theorem h198 : True := trivial
theorem h199 : True := trivial
theorem L0 : True := trivial
theorem L1 : True := trivial
theorem L2 : True := trivial
theorem L3 : True := trivial
theorem L4 : True := trivial
theorem L5 : True := trivial
theorem L6 : True := trivial
theorem L7 : True := trivial
theorem L8 : True := trivial
theorem L9 : True := trivial
theorem L10 : True := trivial
theorem L11 : True := trivial
theorem L12 : True := trivial
theorem L13 : True := trivial
theorem L14 : True := trivial
theorem L15 : True := trivial
theorem L16 : True := trivial
theorem L17 : True := trivial
theorem L18 : True := trivial
theorem L19 : True := trivial
theorem L20 : True := trivial
theorem L21 : True := trivial
theorem L22 : True := trivial
theorem L23 : True := trivial
theorem L24 : True := trivial
theorem L25 : True := trivial
theorem L26 : True := trivial
theorem L27 : True := trivial
theorem L28 : True := trivial
theorem L29 : True := trivial
theorem L30 : True := trivial
theorem L31 : True := trivial
theorem L32 : True := trivial
theorem L33 : True := trivial
theorem L34 : True := trivial
theorem L35 : True := trivial
theorem L36 : True := trivial
theorem L37 : True := trivial
theorem L38 : True := trivial
theorem L39 : True := trivial
theorem L40 : True := trivial
theorem L41 : True := trivial
theorem L42 : True := trivial
theorem L43 : True := trivial
theorem L44 : True := trivial
theorem L45 : True := trivial
theorem L46 : True := trivial
theorem L47 : True := trivial
theorem L48 : True := trivial
theorem L49 : True := trivial
theorem L50 : True := trivial
theorem L51 : True := trivial
theorem L52 : True := trivial
theorem L53 : True := trivial
theorem L54 : True := trivial
theorem L55 : True := trivial
theorem L56 : True := trivial
theorem L57 : True := trivial
theorem L58 : True := trivial
theorem L59 : True := trivial
theorem L60 : True := trivial
theorem L61 : True := trivial
theorem L62 : True := trivial
theorem L63 : True := trivial
theorem L64 : True := trivial
theorem L65 : True := trivial
theorem L66 : True := trivial
theorem L67 : True := trivial
theorem L68 : True := trivial
theorem L69 : True := trivial
theorem L70 : True := trivial
theorem L71 : True := trivial
theorem L72 : True := trivial
theorem L73 : True := trivial
theorem L74 : True := trivial
theorem L75 : True := trivial
theorem L76 : True := trivial
theorem L77 : True := trivial
theorem L78 : True := trivial
theorem L79 : True := trivial
theorem L80 : True := trivial
theorem L81 : True := trivial
theorem L82 : True := trivial
theorem L83 : True := trivial
theorem L84 : True := trivial
theorem L85 : True := trivial
theorem L86 : True := trivial
theorem L87 : True := trivial
theorem L88 : True := trivial
theorem L89 : True := trivial
theorem L90 : True := trivial
theorem L91 : True := trivial
theorem L92 : True := trivial
theorem L93 : True := trivial
theorem L94 : True := trivial
theorem L95 : True := trivial
theorem L96 : True := trivial
theorem L97 : True := trivial
theorem L98 : True := trivial
theorem L99 : True := trivial
theorem L100 : True := trivial
theorem L101 : True := trivial
theorem L102 : True := trivial
theorem L103 : True := trivial
theorem L104 : True := trivial
theorem L105 : True := trivial
theorem L106 : True := trivial
theorem L107 : True := trivial
theorem L108 : True := trivial
theorem L109 : True := trivial
theorem L110 : True := trivial
theorem L111 : True := trivial
theorem L112 : True := trivial
theorem L113 : True := trivial
theorem L114 : True := trivial
theorem L115 : True := trivial
theorem L116 : True := trivial
theorem L117 : True := trivial
theorem L118 : True := trivial
theorem L119 : True := trivial
theorem L120 : True := trivial
theorem L121 : True := trivial
theorem L122 : True := trivial
theorem L123 : True := trivial
theorem L124 : True := trivial
theorem L125 : True := trivial
theorem L126 : True := trivial
theorem L127 : True := trivial
theorem L128 : True := trivial
theorem L129 : True := trivial
theorem L130 : True := trivial
theorem L131 : True := trivial
theorem L132 : True := trivial
theorem L133 : True := trivial
theorem L134 : True := trivial
theorem L135 : True := trivial
theorem L136 : True := trivial
theorem L137 : True := trivial
theorem L138 : True := trivial
theorem L139 : True := trivial
theorem L140 : True := trivial
theorem L141 : True := trivial
theorem L142 : True := trivial
theorem L143 : True := trivial
theorem L144 : True := trivial
theorem L145 : True := trivial
theorem L146 : True := trivial
theorem L147 : True := trivial
theorem L148 : True := trivial
theorem L149 : True := trivial
theorem L150 : True := trivial
theorem L151 : True := trivial
theorem L152 : True := trivial
theorem L153 : True := trivial
theorem L154 : True := trivial
theorem L155 : True := trivial
theorem L156 : True := trivial
theorem L157 : True := trivial
theorem L158 : True := trivial
theorem L159 : True := trivial
theorem L160 : True := trivial
theorem L161 : True := trivial
theorem L162 : True := trivial
theorem L163 : True := trivial
theorem L164 : True := trivial
theorem L165 : True := trivial
theorem L166 : True := trivial
theorem L167 : True := trivial
theorem L168 : True := trivial
theorem L169 : True := trivial
theorem L170 : True := trivial
theorem L171 : True := trivial
theorem L172 : True := trivial
theorem L173 : True := trivial
theorem L174 : True := trivial
theorem L175 : True := trivial
theorem L176 : True := trivial
theorem L177 : True := trivial
theorem L178 : True := trivial
theorem L179 : True := trivial
theorem L180 : True := trivial
theorem L181 : True := trivial
theorem L182 : True := trivial
theorem L183 : True := trivial
theorem L184 : True := trivial
theorem L185 : True := trivial
theorem L186 : True := trivial
theorem L187 : True := trivial
theorem L188 : True := trivial
theorem L189 : True := trivial
theorem L190 : True := trivial
theorem L191 : True := trivial
theorem L192 : True := trivial
theorem L193 : True := trivial
theorem L194 : True := trivial
theorem L195 : True := trivial
theorem L196 : True := trivial
theorem L197 : True := trivial
theorem L198 : True := trivial
theorem L199 : True := trivial
-- STAND-INS
theorem dL_law_2740 : decode cL_law 2740 = .ok (.iload 6, 2) := by decide +kernel
theorem dL_law_2742 : decode cL_law 2742 = .ok (.if_icmp .eq 5, 3) := by decide +kernel
theorem dL_law_2745 : decode cL_law 2745 = .ok (.iconst 0, 1) := by decide +kernel
theorem dL_law_2746 : decode cL_law 2746 = .ok (.ireturn, 1) := by decide +kernel
theorem dL_law_2747 : decode cL_law 2747 = .ok (.iload 6, 2) := by decide +kernel
theorem dL_law_2749 : decode cL_law 2749 = .ok (.ifCond .ne 35, 3) := by decide +kernel
theorem dL_law_2752 : decode cL_law 2752 = .ok (.aload 4, 2) := by decide +kernel
theorem dL_law_2754 : decode cL_law 2754 = .ok (.iconst 0, 1) := by decide +kernel
theorem dL_law_2755 : decode cL_law 2755 = .ok (.daload, 1) := by decide +kernel
theorem dL_law_2756 : decode cL_law 2756 = .ok (.dload 7, 2) := by decide +kernel
theorem dL_law_2758 : decode cL_law 2758 = .ok (.dcmp .l, 1) := by decide +kernel
theorem dL_law_2759 : decode cL_law 2759 = .ok (.ifCond .eq 25, 3) := by decide +kernel
theorem dL_law_2762 : decode cL_law 2762 = .ok (.aload 4, 2) := by decide +kernel
theorem dL_law_2764 : decode cL_law 2764 = .ok (.iconst 0, 1) := by decide +kernel
theorem dL_law_2765 : decode cL_law 2765 = .ok (.daload, 1) := by decide +kernel
theorem dL_law_2766 : decode cL_law 2766 = .ok (.aload 4, 2) := by decide +kernel
theorem dL_law_2768 : decode cL_law 2768 = .ok (.iconst 0, 1) := by decide +kernel
theorem dL_law_2769 : decode cL_law 2769 = .ok (.daload, 1) := by decide +kernel
theorem dL_law_2770 : decode cL_law 2770 = .ok (.dcmp .l, 1) := by decide +kernel
theorem dL_law_2771 : decode cL_law 2771 = .ok (.ifCond .eq 11, 3) := by decide +kernel
theorem dL_law_2774 : decode cL_law 2774 = .ok (.dload 7, 2) := by decide +kernel
theorem dL_law_2776 : decode cL_law 2776 = .ok (.dload 7, 2) := by decide +kernel
theorem dL_law_2778 : decode cL_law 2778 = .ok (.dcmp .l, 1) := by decide +kernel
theorem dL_law_2779 : decode cL_law 2779 = .ok (.ifCond .ne 5, 3) := by decide +kernel
theorem dL_law_2782 : decode cL_law 2782 = .ok (.iconst 0, 1) := by decide +kernel
theorem dL_law_2783 : decode cL_law 2783 = .ok (.ireturn, 1) := by decide +kernel
theorem dL_law_2784 : decode cL_law 2784 = .ok (.goto 307, 3) := by decide +kernel
theorem dL_law_2787 : decode cL_law 2787 = .ok (.aload_n 1, 1) := by decide +kernel
theorem dL_law_2788 : decode cL_law 2788 = .ok (.invokevirtual 333, 3) := by decide +kernel
theorem dL_law_2791 : decode cL_law 2791 = .ok (.aload_n 2, 1) := by decide +kernel
theorem dL_law_2792 : decode cL_law 2792 = .ok (.invokevirtual 337, 3) := by decide +kernel
theorem dL_law_2795 : decode cL_law 2795 = .ok (.if_icmp .eq 296, 3) := by decide +kernel
theorem dL_law_2798 : decode cL_law 2798 = .ok (.iconst 0, 1) := by decide +kernel
theorem dL_law_2799 : decode cL_law 2799 = .ok (.ireturn, 1) := by decide +kernel
theorem dL_law_2800 : decode cL_law 2800 = .ok (.aload_n 1, 1) := by decide +kernel
theorem dL_law_2801 : decode cL_law 2801 = .ok (.aload_n 0, 1) := by decide +kernel
theorem dL_law_2802 : decode cL_law 2802 = .ok (.iload 5, 2) := by decide +kernel
theorem dL_law_2804 : decode cL_law 2804 = .ok (.iconst 1, 1) := by decide +kernel
theorem dL_law_2805 : decode cL_law 2805 = .ok (.iadd, 1) := by decide +kernel
theorem dL_law_2806 : decode cL_law 2806 = .ok (.iaload, 1) := by decide +kernel
theorem dL_law_2807 : decode cL_law 2807 = .ok (.i2c, 1) := by decide +kernel
theorem dL_law_2808 : decode cL_law 2808 = .ok (.aload_n 3, 1) := by decide +kernel
theorem dL_law_2809 : decode cL_law 2809 = .ok (.invokestatic 338, 3) := by decide +kernel
theorem dL_law_2812 : decode cL_law 2812 = .ok (.istore 6, 2) := by decide +kernel
theorem dL_law_2814 : decode cL_law 2814 = .ok (.aload_n 2, 1) := by decide +kernel
theorem dL_law_2815 : decode cL_law 2815 = .ok (.aload_n 0, 1) := by decide +kernel
theorem dL_law_2816 : decode cL_law 2816 = .ok (.iload 5, 2) := by decide +kernel
theorem dL_law_2818 : decode cL_law 2818 = .ok (.iconst 1, 1) := by decide +kernel
theorem dL_law_2819 : decode cL_law 2819 = .ok (.iadd, 1) := by decide +kernel
theorem dL_law_2820 : decode cL_law 2820 = .ok (.iaload, 1) := by decide +kernel
theorem dL_law_2821 : decode cL_law 2821 = .ok (.i2c, 1) := by decide +kernel
theorem dL_law_2822 : decode cL_law 2822 = .ok (.invokevirtual 341, 3) := by decide +kernel
theorem dL_law_2825 : decode cL_law 2825 = .ok (.istore 7, 2) := by decide +kernel
theorem dL_law_2827 : decode cL_law 2827 = .ok (.aload_n 2, 1) := by decide +kernel
theorem dL_law_2828 : decode cL_law 2828 = .ok (.invokevirtual 174, 3) := by decide +kernel
theorem dL_law_2831 : decode cL_law 2831 = .ok (.iload 6, 2) := by decide +kernel
theorem dL_law_2833 : decode cL_law 2833 = .ok (.if_icmp .eq 5, 3) := by decide +kernel
theorem dL_law_2836 : decode cL_law 2836 = .ok (.iconst 0, 1) := by decide +kernel
theorem dL_law_2837 : decode cL_law 2837 = .ok (.ireturn, 1) := by decide +kernel
theorem dL_law_2838 : decode cL_law 2838 = .ok (.iload 6, 2) := by decide +kernel
theorem dL_law_2840 : decode cL_law 2840 = .ok (.ifCond .ne 15, 3) := by decide +kernel
theorem dL_law_2843 : decode cL_law 2843 = .ok (.aload_n 3, 1) := by decide +kernel
theorem dL_law_2844 : decode cL_law 2844 = .ok (.iconst 0, 1) := by decide +kernel
theorem dL_law_2845 : decode cL_law 2845 = .ok (.laload, 1) := by decide +kernel
theorem dL_law_2846 : decode cL_law 2846 = .ok (.iload 7, 2) := by decide +kernel
theorem dL_law_2848 : decode cL_law 2848 = .ok (.i2l, 1) := by decide +kernel
theorem dL_law_2849 : decode cL_law 2849 = .ok (.lcmp, 1) := by decide +kernel
theorem dL_law_2850 : decode cL_law 2850 = .ok (.ifCond .eq 5, 3) := by decide +kernel
theorem dL_law_2853 : decode cL_law 2853 = .ok (.iconst 0, 1) := by decide +kernel
theorem dL_law_2854 : decode cL_law 2854 = .ok (.ireturn, 1) := by decide +kernel
theorem dL_law_2855 : decode cL_law 2855 = .ok (.goto 236, 3) := by decide +kernel
theorem dL_law_2858 : decode cL_law 2858 = .ok (.aload_n 1, 1) := by decide +kernel
theorem dL_law_2859 : decode cL_law 2859 = .ok (.aload_n 3, 1) := by decide +kernel
theorem dL_law_2860 : decode cL_law 2860 = .ok (.invokestatic 342, 3) := by decide +kernel
theorem dL_law_2863 : decode cL_law 2863 = .ok (.istore 6, 2) := by decide +kernel
theorem dL_law_2865 : decode cL_law 2865 = .ok (.aload_n 2, 1) := by decide +kernel
theorem dL_law_2866 : decode cL_law 2866 = .ok (.invokevirtual 344, 3) := by decide +kernel
theorem dL_law_2869 : decode cL_law 2869 = .ok (.istore 7, 2) := by decide +kernel
theorem dL_law_2871 : decode cL_law 2871 = .ok (.aload_n 2, 1) := by decide +kernel
theorem dL_law_2872 : decode cL_law 2872 = .ok (.invokevirtual 174, 3) := by decide +kernel
theorem dL_law_2875 : decode cL_law 2875 = .ok (.iload 6, 2) := by decide +kernel
theorem dL_law_2877 : decode cL_law 2877 = .ok (.if_icmp .eq 5, 3) := by decide +kernel
theorem dL_law_2880 : decode cL_law 2880 = .ok (.iconst 0, 1) := by decide +kernel
theorem dL_law_2881 : decode cL_law 2881 = .ok (.ireturn, 1) := by decide +kernel
theorem dL_law_2882 : decode cL_law 2882 = .ok (.iload 6, 2) := by decide +kernel
theorem dL_law_2884 : decode cL_law 2884 = .ok (.ifCond .ne 15, 3) := by decide +kernel
theorem dL_law_2887 : decode cL_law 2887 = .ok (.aload_n 3, 1) := by decide +kernel
theorem dL_law_2888 : decode cL_law 2888 = .ok (.iconst 0, 1) := by decide +kernel
theorem dL_law_2889 : decode cL_law 2889 = .ok (.laload, 1) := by decide +kernel
theorem dL_law_2890 : decode cL_law 2890 = .ok (.iload 7, 2) := by decide +kernel
theorem dL_law_2892 : decode cL_law 2892 = .ok (.i2l, 1) := by decide +kernel
theorem dL_law_2893 : decode cL_law 2893 = .ok (.lcmp, 1) := by decide +kernel
theorem dL_law_2894 : decode cL_law 2894 = .ok (.ifCond .eq 5, 3) := by decide +kernel
theorem dL_law_2897 : decode cL_law 2897 = .ok (.iconst 0, 1) := by decide +kernel
theorem dL_law_2898 : decode cL_law 2898 = .ok (.ireturn, 1) := by decide +kernel
theorem dL_law_2899 : decode cL_law 2899 = .ok (.goto 192, 3) := by decide +kernel
theorem dL_law_2902 : decode cL_law 2902 = .ok (.aload_n 1, 1) := by decide +kernel
theorem dL_law_2903 : decode cL_law 2903 = .ok (.aload_n 3, 1) := by decide +kernel
theorem dL_law_2904 : decode cL_law 2904 = .ok (.invokestatic 345, 3) := by decide +kernel
theorem dL_law_2907 : decode cL_law 2907 = .ok (.istore 6, 2) := by decide +kernel
theorem dL_law_2909 : decode cL_law 2909 = .ok (.aload_n 2, 1) := by decide +kernel
theorem dL_law_2910 : decode cL_law 2910 = .ok (.invokevirtual 347, 3) := by decide +kernel
theorem dL_law_2913 : decode cL_law 2913 = .ok (.istore 7, 2) := by decide +kernel
theorem dL_law_2915 : decode cL_law 2915 = .ok (.aload_n 2, 1) := by decide +kernel
theorem dL_law_2916 : decode cL_law 2916 = .ok (.invokevirtual 174, 3) := by decide +kernel
theorem dL_law_2919 : decode cL_law 2919 = .ok (.iload 6, 2) := by decide +kernel
theorem dL_law_2921 : decode cL_law 2921 = .ok (.if_icmp .eq 5, 3) := by decide +kernel
theorem dL_law_2924 : decode cL_law 2924 = .ok (.iconst 0, 1) := by decide +kernel
theorem dL_law_2925 : decode cL_law 2925 = .ok (.ireturn, 1) := by decide +kernel
theorem dL_law_2926 : decode cL_law 2926 = .ok (.iload 6, 2) := by decide +kernel
theorem dL_law_2928 : decode cL_law 2928 = .ok (.ifCond .ne 15, 3) := by decide +kernel
theorem dL_law_2931 : decode cL_law 2931 = .ok (.aload_n 3, 1) := by decide +kernel
theorem dL_law_2932 : decode cL_law 2932 = .ok (.iconst 0, 1) := by decide +kernel
theorem dL_law_2933 : decode cL_law 2933 = .ok (.laload, 1) := by decide +kernel
theorem dL_law_2934 : decode cL_law 2934 = .ok (.iload 7, 2) := by decide +kernel
theorem dL_law_2936 : decode cL_law 2936 = .ok (.i2l, 1) := by decide +kernel
theorem dL_law_2937 : decode cL_law 2937 = .ok (.lcmp, 1) := by decide +kernel
theorem dL_law_2938 : decode cL_law 2938 = .ok (.ifCond .eq 5, 3) := by decide +kernel
theorem dL_law_2941 : decode cL_law 2941 = .ok (.iconst 0, 1) := by decide +kernel
theorem dL_law_2942 : decode cL_law 2942 = .ok (.ireturn, 1) := by decide +kernel
theorem dL_law_2943 : decode cL_law 2943 = .ok (.goto 148, 3) := by decide +kernel
theorem dL_law_2946 : decode cL_law 2946 = .ok (.aload_n 1, 1) := by decide +kernel
theorem dL_law_2947 : decode cL_law 2947 = .ok (.aload_n 3, 1) := by decide +kernel
theorem dL_law_2948 : decode cL_law 2948 = .ok (.invokestatic 348, 3) := by decide +kernel
theorem dL_law_2951 : decode cL_law 2951 = .ok (.istore 6, 2) := by decide +kernel
theorem dL_law_2953 : decode cL_law 2953 = .ok (.aload_n 2, 1) := by decide +kernel
theorem dL_law_2954 : decode cL_law 2954 = .ok (.invokevirtual 350, 3) := by decide +kernel
theorem dL_law_2957 : decode cL_law 2957 = .ok (.istore 7, 2) := by decide +kernel
theorem dL_law_2959 : decode cL_law 2959 = .ok (.aload_n 2, 1) := by decide +kernel
theorem dL_law_2960 : decode cL_law 2960 = .ok (.invokevirtual 174, 3) := by decide +kernel
theorem dL_law_2963 : decode cL_law 2963 = .ok (.iload 6, 2) := by decide +kernel
theorem dL_law_2965 : decode cL_law 2965 = .ok (.if_icmp .eq 5, 3) := by decide +kernel
theorem dL_law_2968 : decode cL_law 2968 = .ok (.iconst 0, 1) := by decide +kernel
theorem dL_law_2969 : decode cL_law 2969 = .ok (.ireturn, 1) := by decide +kernel
theorem dL_law_2970 : decode cL_law 2970 = .ok (.iload 6, 2) := by decide +kernel
theorem dL_law_2972 : decode cL_law 2972 = .ok (.ifCond .ne 15, 3) := by decide +kernel
theorem dL_law_2975 : decode cL_law 2975 = .ok (.aload_n 3, 1) := by decide +kernel
theorem dL_law_2976 : decode cL_law 2976 = .ok (.iconst 0, 1) := by decide +kernel
theorem dL_law_2977 : decode cL_law 2977 = .ok (.laload, 1) := by decide +kernel
theorem dL_law_2978 : decode cL_law 2978 = .ok (.iload 7, 2) := by decide +kernel
theorem dL_law_2980 : decode cL_law 2980 = .ok (.i2l, 1) := by decide +kernel
theorem dL_law_2981 : decode cL_law 2981 = .ok (.lcmp, 1) := by decide +kernel
theorem dL_law_2982 : decode cL_law 2982 = .ok (.ifCond .eq 5, 3) := by decide +kernel
theorem dL_law_2985 : decode cL_law 2985 = .ok (.iconst 0, 1) := by decide +kernel
theorem dL_law_2986 : decode cL_law 2986 = .ok (.ireturn, 1) := by decide +kernel
theorem dL_law_2987 : decode cL_law 2987 = .ok (.goto 104, 3) := by decide +kernel
theorem dL_law_2990 : decode cL_law 2990 = .ok (.aload_n 1, 1) := by decide +kernel
theorem dL_law_2991 : decode cL_law 2991 = .ok (.aload_n 3, 1) := by decide +kernel
theorem dL_law_2992 : decode cL_law 2992 = .ok (.invokestatic 351, 3) := by decide +kernel
theorem dL_law_2995 : decode cL_law 2995 = .ok (.istore 6, 2) := by decide +kernel
theorem dL_law_2997 : decode cL_law 2997 = .ok (.aload_n 2, 1) := by decide +kernel
theorem dL_law_2998 : decode cL_law 2998 = .ok (.invokevirtual 353, 3) := by decide +kernel
theorem dL_law_3001 : decode cL_law 3001 = .ok (.istore 7, 2) := by decide +kernel
theorem dL_law_3003 : decode cL_law 3003 = .ok (.aload_n 2, 1) := by decide +kernel
theorem dL_law_3004 : decode cL_law 3004 = .ok (.invokevirtual 174, 3) := by decide +kernel
theorem dL_law_3007 : decode cL_law 3007 = .ok (.iload 6, 2) := by decide +kernel
theorem dL_law_3009 : decode cL_law 3009 = .ok (.if_icmp .eq 5, 3) := by decide +kernel
theorem dL_law_3012 : decode cL_law 3012 = .ok (.iconst 0, 1) := by decide +kernel
theorem dL_law_3013 : decode cL_law 3013 = .ok (.ireturn, 1) := by decide +kernel
theorem dL_law_3014 : decode cL_law 3014 = .ok (.iload 6, 2) := by decide +kernel
theorem dL_law_3016 : decode cL_law 3016 = .ok (.ifCond .ne 15, 3) := by decide +kernel
theorem dL_law_3019 : decode cL_law 3019 = .ok (.aload_n 3, 1) := by decide +kernel
theorem dL_law_3020 : decode cL_law 3020 = .ok (.iconst 0, 1) := by decide +kernel
theorem dL_law_3021 : decode cL_law 3021 = .ok (.laload, 1) := by decide +kernel
theorem dL_law_3022 : decode cL_law 3022 = .ok (.iload 7, 2) := by decide +kernel
theorem dL_law_3024 : decode cL_law 3024 = .ok (.i2l, 1) := by decide +kernel
theorem dL_law_3025 : decode cL_law 3025 = .ok (.lcmp, 1) := by decide +kernel
theorem dL_law_3026 : decode cL_law 3026 = .ok (.ifCond .eq 5, 3) := by decide +kernel
theorem dL_law_3029 : decode cL_law 3029 = .ok (.iconst 0, 1) := by decide +kernel
theorem dL_law_3030 : decode cL_law 3030 = .ok (.ireturn, 1) := by decide +kernel
theorem dL_law_3031 : decode cL_law 3031 = .ok (.goto 60, 3) := by decide +kernel
theorem dL_law_3034 : decode cL_law 3034 = .ok (.aload_n 1, 1) := by decide +kernel
theorem dL_law_3035 : decode cL_law 3035 = .ok (.invokevirtual 354, 3) := by decide +kernel
theorem dL_law_3038 : decode cL_law 3038 = .ok (.aload_n 2, 1) := by decide +kernel
theorem dL_law_3039 : decode cL_law 3039 = .ok (.invokevirtual 357, 3) := by decide +kernel
theorem dL_law_3042 : decode cL_law 3042 = .ok (.if_icmp .eq 49, 3) := by decide +kernel
theorem dL_law_3045 : decode cL_law 3045 = .ok (.iconst 0, 1) := by decide +kernel
theorem dL_law_3046 : decode cL_law 3046 = .ok (.ireturn, 1) := by decide +kernel
theorem dL_law_3047 : decode cL_law 3047 = .ok (.aload_n 1, 1) := by decide +kernel
theorem dL_law_3048 : decode cL_law 3048 = .ok (.aload_n 3, 1) := by decide +kernel
theorem dL_law_3049 : decode cL_law 3049 = .ok (.invokestatic 358, 3) := by decide +kernel
theorem dL_law_3052 : decode cL_law 3052 = .ok (.istore 6, 2) := by decide +kernel
theorem dL_law_3054 : decode cL_law 3054 = .ok (.aload_n 2, 1) := by decide +kernel
theorem dL_law_3055 : decode cL_law 3055 = .ok (.invokevirtual 360, 3) := by decide +kernel
theorem dL_law_3058 : decode cL_law 3058 = .ok (.istore 7, 2) := by decide +kernel
theorem dL_law_3060 : decode cL_law 3060 = .ok (.aload_n 2, 1) := by decide +kernel
theorem dL_law_3061 : decode cL_law 3061 = .ok (.invokevirtual 174, 3) := by decide +kernel
theorem dL_law_3064 : decode cL_law 3064 = .ok (.iload 6, 2) := by decide +kernel
theorem dL_law_3066 : decode cL_law 3066 = .ok (.if_icmp .eq 5, 3) := by decide +kernel
theorem dL_law_3069 : decode cL_law 3069 = .ok (.iconst 0, 1) := by decide +kernel
theorem dL_law_3070 : decode cL_law 3070 = .ok (.ireturn, 1) := by decide +kernel
theorem dL_law_3071 : decode cL_law 3071 = .ok (.iload 6, 2) := by decide +kernel
theorem dL_law_3073 : decode cL_law 3073 = .ok (.ifCond .ne 15, 3) := by decide +kernel
theorem dL_law_3076 : decode cL_law 3076 = .ok (.aload_n 3, 1) := by decide +kernel
theorem dL_law_3077 : decode cL_law 3077 = .ok (.iconst 0, 1) := by decide +kernel
theorem dL_law_3078 : decode cL_law 3078 = .ok (.laload, 1) := by decide +kernel
theorem dL_law_3079 : decode cL_law 3079 = .ok (.iload 7, 2) := by decide +kernel
theorem dL_law_3081 : decode cL_law 3081 = .ok (.i2l, 1) := by decide +kernel
theorem dL_law_3082 : decode cL_law 3082 = .ok (.lcmp, 1) := by decide +kernel
theorem dL_law_3083 : decode cL_law 3083 = .ok (.ifCond .eq 5, 3) := by decide +kernel
theorem dL_law_3086 : decode cL_law 3086 = .ok (.iconst 0, 1) := by decide +kernel
theorem dL_law_3087 : decode cL_law 3087 = .ok (.ireturn, 1) := by decide +kernel
theorem dL_law_3088 : decode cL_law 3088 = .ok (.goto 3, 3) := by decide +kernel
theorem dL_law_3091 : decode cL_law 3091 = .ok (.iinc 5 3, 3) := by decide +kernel
theorem dL_law_3094 : decode cL_law 3094 = .ok (.goto (-3066), 3) := by decide +kernel
theorem dL_law_3097 : decode cL_law 3097 = .ok (.iconst 1, 1) := by decide +kernel
theorem dL_law_3098 : decode cL_law 3098 = .ok (.ireturn, 1) := by decide +kernel
