/-! the law's instructions -/
theorem dL_law__2874 : decode cL_law_ 2874 = .ok (.iaload, 1) := by decide +kernel
theorem dL_law__2875 : decode cL_law_ 2875 = .ok (.aload_n 3, 1) := by decide +kernel
theorem dL_law__2876 : decode cL_law_ 2876 = .ok (.invokestatic 269, 3) := by decide +kernel
theorem dL_law__2879 : decode cL_law_ 2879 = .ok (.istore 5, 2) := by decide +kernel
theorem dL_law__2881 : decode cL_law_ 2881 = .ok (.aload_n 2, 1) := by decide +kernel
theorem dL_law__2882 : decode cL_law_ 2882 = .ok (.aload_n 0, 1) := by decide +kernel
theorem dL_law__2883 : decode cL_law_ 2883 = .ok (.iload 4, 2) := by decide +kernel
theorem dL_law__2885 : decode cL_law_ 2885 = .ok (.iconst 1, 1) := by decide +kernel
theorem dL_law__2886 : decode cL_law_ 2886 = .ok (.iadd, 1) := by decide +kernel
theorem dL_law__2887 : decode cL_law_ 2887 = .ok (.iaload, 1) := by decide +kernel
theorem dL_law__2888 : decode cL_law_ 2888 = .ok (.invokevirtual 271, 3) := by decide +kernel
theorem dL_law__2891 : decode cL_law_ 2891 = .ok (.istore 6, 2) := by decide +kernel
theorem dL_law__2893 : decode cL_law_ 2893 = .ok (.aload_n 2, 1) := by decide +kernel
theorem dL_law__2894 : decode cL_law_ 2894 = .ok (.invokevirtual 157, 3) := by decide +kernel
theorem dL_law__2897 : decode cL_law_ 2897 = .ok (.iload 5, 2) := by decide +kernel
theorem dL_law__2899 : decode cL_law_ 2899 = .ok (.if_icmp .eq 5, 3) := by decide +kernel
theorem dL_law__2902 : decode cL_law_ 2902 = .ok (.iconst 0, 1) := by decide +kernel
theorem dL_law__2903 : decode cL_law_ 2903 = .ok (.ireturn, 1) := by decide +kernel
theorem dL_law__2904 : decode cL_law_ 2904 = .ok (.iload 5, 2) := by decide +kernel
theorem dL_law__2906 : decode cL_law_ 2906 = .ok (.ifCond .ne 15, 3) := by decide +kernel
theorem dL_law__2909 : decode cL_law_ 2909 = .ok (.aload_n 3, 1) := by decide +kernel
theorem dL_law__2910 : decode cL_law_ 2910 = .ok (.iconst 0, 1) := by decide +kernel
theorem dL_law__2911 : decode cL_law_ 2911 = .ok (.laload, 1) := by decide +kernel
theorem dL_law__2912 : decode cL_law_ 2912 = .ok (.iload 6, 2) := by decide +kernel
theorem dL_law__2914 : decode cL_law_ 2914 = .ok (.i2l, 1) := by decide +kernel
theorem dL_law__2915 : decode cL_law_ 2915 = .ok (.lcmp, 1) := by decide +kernel
theorem dL_law__2916 : decode cL_law_ 2916 = .ok (.ifCond .eq 5, 3) := by decide +kernel
theorem dL_law__2919 : decode cL_law_ 2919 = .ok (.iconst 0, 1) := by decide +kernel
theorem dL_law__2920 : decode cL_law_ 2920 = .ok (.ireturn, 1) := by decide +kernel
theorem dL_law__2921 : decode cL_law_ 2921 = .ok (.goto 414, 3) := by decide +kernel
theorem dL_law__2924 : decode cL_law_ 2924 = .ok (.aload_n 1, 1) := by decide +kernel
theorem dL_law__2925 : decode cL_law_ 2925 = .ok (.invokevirtual 272, 3) := by decide +kernel
theorem dL_law__2928 : decode cL_law_ 2928 = .ok (.aload_n 2, 1) := by decide +kernel
theorem dL_law__2929 : decode cL_law_ 2929 = .ok (.invokevirtual 275, 3) := by decide +kernel
theorem dL_law__2932 : decode cL_law_ 2932 = .ok (.if_icmp .eq 403, 3) := by decide +kernel
theorem dL_law__2935 : decode cL_law_ 2935 = .ok (.iconst 0, 1) := by decide +kernel
theorem dL_law__2936 : decode cL_law_ 2936 = .ok (.ireturn, 1) := by decide +kernel
theorem dL_law__2937 : decode cL_law_ 2937 = .ok (.aload_n 1, 1) := by decide +kernel
theorem dL_law__2938 : decode cL_law_ 2938 = .ok (.aload_n 0, 1) := by decide +kernel
theorem dL_law__2939 : decode cL_law_ 2939 = .ok (.iload 4, 2) := by decide +kernel
theorem dL_law__2941 : decode cL_law_ 2941 = .ok (.iconst 1, 1) := by decide +kernel
theorem dL_law__2942 : decode cL_law_ 2942 = .ok (.iadd, 1) := by decide +kernel
theorem dL_law__2943 : decode cL_law_ 2943 = .ok (.iaload, 1) := by decide +kernel
theorem dL_law__2944 : decode cL_law_ 2944 = .ok (.aload_n 3, 1) := by decide +kernel
theorem dL_law__2945 : decode cL_law_ 2945 = .ok (.invokestatic 276, 3) := by decide +kernel
theorem dL_law__2948 : decode cL_law_ 2948 = .ok (.istore 5, 2) := by decide +kernel
theorem dL_law__2950 : decode cL_law_ 2950 = .ok (.aload_n 2, 1) := by decide +kernel
theorem dL_law__2951 : decode cL_law_ 2951 = .ok (.aload_n 0, 1) := by decide +kernel
theorem dL_law__2952 : decode cL_law_ 2952 = .ok (.iload 4, 2) := by decide +kernel
theorem dL_law__2954 : decode cL_law_ 2954 = .ok (.iconst 1, 1) := by decide +kernel
theorem dL_law__2955 : decode cL_law_ 2955 = .ok (.iadd, 1) := by decide +kernel
theorem dL_law__2956 : decode cL_law_ 2956 = .ok (.iaload, 1) := by decide +kernel
theorem dL_law__2957 : decode cL_law_ 2957 = .ok (.invokevirtual 278, 3) := by decide +kernel
theorem dL_law__2960 : decode cL_law_ 2960 = .ok (.lstore 6, 2) := by decide +kernel
theorem dL_law__2962 : decode cL_law_ 2962 = .ok (.aload_n 2, 1) := by decide +kernel
theorem dL_law__2963 : decode cL_law_ 2963 = .ok (.invokevirtual 157, 3) := by decide +kernel
theorem dL_law__2966 : decode cL_law_ 2966 = .ok (.iload 5, 2) := by decide +kernel
theorem dL_law__2968 : decode cL_law_ 2968 = .ok (.if_icmp .eq 5, 3) := by decide +kernel
theorem dL_law__2971 : decode cL_law_ 2971 = .ok (.iconst 0, 1) := by decide +kernel
theorem dL_law__2972 : decode cL_law_ 2972 = .ok (.ireturn, 1) := by decide +kernel
theorem dL_law__2973 : decode cL_law_ 2973 = .ok (.iload 5, 2) := by decide +kernel
theorem dL_law__2975 : decode cL_law_ 2975 = .ok (.ifCond .ne 14, 3) := by decide +kernel
theorem dL_law__2978 : decode cL_law_ 2978 = .ok (.aload_n 3, 1) := by decide +kernel
theorem dL_law__2979 : decode cL_law_ 2979 = .ok (.iconst 0, 1) := by decide +kernel
theorem dL_law__2980 : decode cL_law_ 2980 = .ok (.laload, 1) := by decide +kernel
theorem dL_law__2981 : decode cL_law_ 2981 = .ok (.lload 6, 2) := by decide +kernel
theorem dL_law__2983 : decode cL_law_ 2983 = .ok (.lcmp, 1) := by decide +kernel
theorem dL_law__2984 : decode cL_law_ 2984 = .ok (.ifCond .eq 5, 3) := by decide +kernel
theorem dL_law__2987 : decode cL_law_ 2987 = .ok (.iconst 0, 1) := by decide +kernel
theorem dL_law__2988 : decode cL_law_ 2988 = .ok (.ireturn, 1) := by decide +kernel
theorem dL_law__2989 : decode cL_law_ 2989 = .ok (.goto 346, 3) := by decide +kernel
theorem dL_law__2992 : decode cL_law_ 2992 = .ok (.aload_n 1, 1) := by decide +kernel
theorem dL_law__2993 : decode cL_law_ 2993 = .ok (.aload_n 0, 1) := by decide +kernel
theorem dL_law__2994 : decode cL_law_ 2994 = .ok (.iload 4, 2) := by decide +kernel
theorem dL_law__2996 : decode cL_law_ 2996 = .ok (.iconst 1, 1) := by decide +kernel
theorem dL_law__2997 : decode cL_law_ 2997 = .ok (.iadd, 1) := by decide +kernel
theorem dL_law__2998 : decode cL_law_ 2998 = .ok (.iaload, 1) := by decide +kernel
theorem dL_law__2999 : decode cL_law_ 2999 = .ok (.i2l, 1) := by decide +kernel
theorem dL_law__3000 : decode cL_law_ 3000 = .ok (.bipush 32, 2) := by decide +kernel
theorem dL_law__3002 : decode cL_law_ 3002 = .ok (.lshl, 1) := by decide +kernel
theorem dL_law__3003 : decode cL_law_ 3003 = .ok (.aload_n 0, 1) := by decide +kernel
theorem dL_law__3004 : decode cL_law_ 3004 = .ok (.iload 4, 2) := by decide +kernel
theorem dL_law__3006 : decode cL_law_ 3006 = .ok (.iconst 2, 1) := by decide +kernel
theorem dL_law__3007 : decode cL_law_ 3007 = .ok (.iadd, 1) := by decide +kernel
theorem dL_law__3008 : decode cL_law_ 3008 = .ok (.iaload, 1) := by decide +kernel
theorem dL_law__3009 : decode cL_law_ 3009 = .ok (.i2l, 1) := by decide +kernel
theorem dL_law__3010 : decode cL_law_ 3010 = .ok (.ldc2_w 178, 3) := by decide +kernel
theorem dL_law__3013 : decode cL_law_ 3013 = .ok (.land, 1) := by decide +kernel
theorem dL_law__3014 : decode cL_law_ 3014 = .ok (.lor, 1) := by decide +kernel
theorem dL_law__3015 : decode cL_law_ 3015 = .ok (.aload_n 0, 1) := by decide +kernel
theorem dL_law__3016 : decode cL_law_ 3016 = .ok (.iload 4, 2) := by decide +kernel
theorem dL_law__3018 : decode cL_law_ 3018 = .ok (.iconst 3, 1) := by decide +kernel
theorem dL_law__3019 : decode cL_law_ 3019 = .ok (.iadd, 1) := by decide +kernel
theorem dL_law__3020 : decode cL_law_ 3020 = .ok (.iaload, 1) := by decide +kernel
theorem dL_law__3021 : decode cL_law_ 3021 = .ok (.aload_n 3, 1) := by decide +kernel
theorem dL_law__3022 : decode cL_law_ 3022 = .ok (.invokestatic 279, 3) := by decide +kernel
theorem dL_law__3025 : decode cL_law_ 3025 = .ok (.istore 5, 2) := by decide +kernel
theorem dL_law__3027 : decode cL_law_ 3027 = .ok (.aload_n 2, 1) := by decide +kernel
theorem dL_law__3028 : decode cL_law_ 3028 = .ok (.aload_n 0, 1) := by decide +kernel
theorem dL_law__3029 : decode cL_law_ 3029 = .ok (.iload 4, 2) := by decide +kernel
theorem dL_law__3031 : decode cL_law_ 3031 = .ok (.iconst 1, 1) := by decide +kernel
theorem dL_law__3032 : decode cL_law_ 3032 = .ok (.iadd, 1) := by decide +kernel
theorem dL_law__3033 : decode cL_law_ 3033 = .ok (.iaload, 1) := by decide +kernel
theorem dL_law__3034 : decode cL_law_ 3034 = .ok (.i2l, 1) := by decide +kernel
theorem dL_law__3035 : decode cL_law_ 3035 = .ok (.bipush 32, 2) := by decide +kernel
theorem dL_law__3037 : decode cL_law_ 3037 = .ok (.lshl, 1) := by decide +kernel
theorem dL_law__3038 : decode cL_law_ 3038 = .ok (.aload_n 0, 1) := by decide +kernel
theorem dL_law__3039 : decode cL_law_ 3039 = .ok (.iload 4, 2) := by decide +kernel
theorem dL_law__3041 : decode cL_law_ 3041 = .ok (.iconst 2, 1) := by decide +kernel
theorem dL_law__3042 : decode cL_law_ 3042 = .ok (.iadd, 1) := by decide +kernel
theorem dL_law__3043 : decode cL_law_ 3043 = .ok (.iaload, 1) := by decide +kernel
theorem dL_law__3044 : decode cL_law_ 3044 = .ok (.i2l, 1) := by decide +kernel
theorem dL_law__3045 : decode cL_law_ 3045 = .ok (.ldc2_w 178, 3) := by decide +kernel
theorem dL_law__3048 : decode cL_law_ 3048 = .ok (.land, 1) := by decide +kernel
theorem dL_law__3049 : decode cL_law_ 3049 = .ok (.lor, 1) := by decide +kernel
theorem dL_law__3050 : decode cL_law_ 3050 = .ok (.aload_n 0, 1) := by decide +kernel
theorem dL_law__3051 : decode cL_law_ 3051 = .ok (.iload 4, 2) := by decide +kernel
theorem dL_law__3053 : decode cL_law_ 3053 = .ok (.iconst 3, 1) := by decide +kernel
theorem dL_law__3054 : decode cL_law_ 3054 = .ok (.iadd, 1) := by decide +kernel
theorem dL_law__3055 : decode cL_law_ 3055 = .ok (.iaload, 1) := by decide +kernel
theorem dL_law__3056 : decode cL_law_ 3056 = .ok (.invokevirtual 281, 3) := by decide +kernel
theorem dL_law__3059 : decode cL_law_ 3059 = .ok (.istore 6, 2) := by decide +kernel
theorem dL_law__3061 : decode cL_law_ 3061 = .ok (.aload_n 2, 1) := by decide +kernel
theorem dL_law__3062 : decode cL_law_ 3062 = .ok (.invokevirtual 157, 3) := by decide +kernel
theorem dL_law__3065 : decode cL_law_ 3065 = .ok (.iload 5, 2) := by decide +kernel
theorem dL_law__3067 : decode cL_law_ 3067 = .ok (.if_icmp .eq 5, 3) := by decide +kernel
theorem dL_law__3070 : decode cL_law_ 3070 = .ok (.iconst 0, 1) := by decide +kernel
theorem dL_law__3071 : decode cL_law_ 3071 = .ok (.ireturn, 1) := by decide +kernel
theorem dL_law__3072 : decode cL_law_ 3072 = .ok (.iload 5, 2) := by decide +kernel
theorem dL_law__3074 : decode cL_law_ 3074 = .ok (.ifCond .ne 15, 3) := by decide +kernel
theorem dL_law__3077 : decode cL_law_ 3077 = .ok (.aload_n 3, 1) := by decide +kernel
theorem dL_law__3078 : decode cL_law_ 3078 = .ok (.iconst 0, 1) := by decide +kernel
theorem dL_law__3079 : decode cL_law_ 3079 = .ok (.laload, 1) := by decide +kernel
theorem dL_law__3080 : decode cL_law_ 3080 = .ok (.iload 6, 2) := by decide +kernel
theorem dL_law__3082 : decode cL_law_ 3082 = .ok (.i2l, 1) := by decide +kernel
theorem dL_law__3083 : decode cL_law_ 3083 = .ok (.lcmp, 1) := by decide +kernel
theorem dL_law__3084 : decode cL_law_ 3084 = .ok (.ifCond .eq 5, 3) := by decide +kernel
theorem dL_law__3087 : decode cL_law_ 3087 = .ok (.iconst 0, 1) := by decide +kernel
theorem dL_law__3088 : decode cL_law_ 3088 = .ok (.ireturn, 1) := by decide +kernel
theorem dL_law__3089 : decode cL_law_ 3089 = .ok (.goto 246, 3) := by decide +kernel
theorem dL_law__3092 : decode cL_law_ 3092 = .ok (.aload_n 1, 1) := by decide +kernel
theorem dL_law__3093 : decode cL_law_ 3093 = .ok (.aload_n 0, 1) := by decide +kernel
theorem dL_law__3094 : decode cL_law_ 3094 = .ok (.iload 4, 2) := by decide +kernel
theorem dL_law__3096 : decode cL_law_ 3096 = .ok (.iconst 1, 1) := by decide +kernel
theorem dL_law__3097 : decode cL_law_ 3097 = .ok (.iadd, 1) := by decide +kernel
theorem dL_law__3098 : decode cL_law_ 3098 = .ok (.iaload, 1) := by decide +kernel
theorem dL_law__3099 : decode cL_law_ 3099 = .ok (.i2l, 1) := by decide +kernel
theorem dL_law__3100 : decode cL_law_ 3100 = .ok (.bipush 32, 2) := by decide +kernel
theorem dL_law__3102 : decode cL_law_ 3102 = .ok (.lshl, 1) := by decide +kernel
theorem dL_law__3103 : decode cL_law_ 3103 = .ok (.aload_n 0, 1) := by decide +kernel
