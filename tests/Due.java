/** What the tests share: telling answers that are not as due, and feeding texts. */
final class Due {
    static final String ALL_WOOD = "9#3#/9#3#/9#3#/9#3#/9#3#/9#3#/9#3#/9#3#";

    private int wrong = 0;
    private int asked = 0;
    private int sentences = 0;
    private String sentence = "";

    /** What is asked from here on is asked for this sentence of the document. */
    void sentence(String words) {
        sentences++;
        sentence = "[" + words + "] ";
    }

    void is(String call, long got, long want) {
        asked++;
        if (got != want) {
            wrong++;
            System.out.println(sentence + call + " answered " + got + ", due is " + want);
        }
    }

    void is(String call, boolean got, boolean want) {
        is(call, got ? 1 : 0, want ? 1 : 0);
    }

    /** Feeds the bytes (and what fills up the last twenty) and answers how many they are. */
    static int fed(InsuredFlame x, int... bytes) {
        for (int from = 0; from < bytes.length; from += 20) {
            int[] words = new int[5];
            for (int k = 0; k < 20; k++) {
                int b = from + k < bytes.length ? bytes[from + k] : 'a';
                words[k / 4] = words[k / 4] << 8 | b & 255;
            }
            x.feed(words[0], words[1], words[2], words[3], words[4]);
        }
        return bytes.length;
    }

    static int fed(InsuredFlame x, String text) {
        int[] bytes = new int[text.length()];
        for (int k = 0; k < bytes.length; k++) {
            bytes[k] = text.charAt(k);
        }
        return fed(x, bytes);
    }

    /** A new object with a town, orders and a law; an empty text is not told. */
    static InsuredFlame flame(String town, String orders, String law) {
        InsuredFlame x = new InsuredFlame();
        if (!town.isEmpty()) {
            town(x, town);
        }
        if (!orders.isEmpty()) {
            orders(x, orders);
        }
        if (!law.isEmpty()) {
            law(x, law);
        }
        return x;
    }

    /** Feeds till the tape has so many bytes (by twenties), all of them the same. */
    static void fill(InsuredFlame x, int many, int sign) {
        int word = sign * 0x01010101;
        while (x.count(7) < many) {
            x.feed(word, word, word, word, word);
        }
    }

    /** Tells the THINGS from first to last at a PLACE ("x,y"), each with the VALUE and the SUM. */
    static void things(InsuredFlame x, int first, int last, String place, int value, int sum) {
        for (int i = first; i <= last; i++) {
            orders(x, i + "@" + place + ";" + i + "=" + value + ";" + i + "+" + sum);
        }
    }

    /** X behind a DRAW. */
    static int drawn(int x) {
        return (int) ((25173L * x + 13849L) % 65536L);
    }

    /** The lowest X whose next DRAW is this one. */
    static int seedOf(int draw) {
        int x = 0;
        while (drawn(x) % 10 != draw) {
            x++;
        }
        return x;
    }

    static int law(InsuredFlame x, String text) {
        return x.law(fed(x, text));
    }

    static int town(InsuredFlame x, String text) {
        return x.town(fed(x, text));
    }

    static int orders(InsuredFlame x, String text) {
        return x.orders(fed(x, text));
    }

    void law(InsuredFlame x, String text, int want) {
        is("law " + text, law(x, text), want);
    }

    void town(InsuredFlame x, String text, int want) {
        is("town " + text, town(x, text), want);
    }

    void orders(InsuredFlame x, String text, int want) {
        is("orders " + text, orders(x, text), want);
    }

    void end() {
        String all = asked + " answers" + (sentences == 0 ? "" : " to " + sentences + " sentences");
        System.out.println(wrong == 0 ? "all " + all + " are as due" : wrong + " of " + all + " are not as due");
        if (wrong != 0) {
            System.exit(1);
        }
    }
}
