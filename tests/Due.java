/** What the tests share: telling answers that are not as due, and feeding texts. */
final class Due {
    private int wrong = 0;
    private int asked = 0;

    void is(String call, long got, long want) {
        asked++;
        if (got != want) {
            wrong++;
            System.out.println(call + " answered " + got + ", due is " + want);
        }
    }

    void is(String call, boolean got, boolean want) {
        is(call, got ? 1 : 0, want ? 1 : 0);
    }

    /** Feeds the bytes (and what fills up the last twenty) and answers how many they are. */
    static int fed(InsuredFlame x, int... bytes) {
        for (int from = 0; from < bytes.length; from += 20) {
            int[] words = new int[5];
            for (int k = 0; k < 20; k++) {
                int b = from + k < bytes.length ? bytes[from + k] : 'a';
                words[k / 4] = words[k / 4] << 8 | b & 255;
            }
            x.feed(words[0], words[1], words[2], words[3], words[4]);
        }
        return bytes.length;
    }

    static int fed(InsuredFlame x, String text) {
        int[] bytes = new int[text.length()];
        for (int k = 0; k < bytes.length; k++) {
            bytes[k] = text.charAt(k);
        }
        return fed(x, bytes);
    }

    static int law(InsuredFlame x, String text) {
        return x.law(fed(x, text));
    }

    static int town(InsuredFlame x, String text) {
        return x.town(fed(x, text));
    }

    static int orders(InsuredFlame x, String text) {
        return x.orders(fed(x, text));
    }

    void law(InsuredFlame x, String text, int want) {
        is("law " + text, law(x, text), want);
    }

    void town(InsuredFlame x, String text, int want) {
        is("town " + text, town(x, text), want);
    }

    void orders(InsuredFlame x, String text, int want) {
        is("orders " + text, orders(x, text), want);
    }

    void end() {
        System.out.println(wrong == 0 ? "all " + asked + " answers are as due" : wrong + " of " + asked + " answers are not as due");
        if (wrong != 0) {
            System.exit(1);
        }
    }
}
