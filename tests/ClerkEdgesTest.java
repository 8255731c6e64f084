/** Promises 17 to 21 at their bounds: insure, roundFigure, ruin, carried, premium. */
public final class ClerkEdgesTest {
    private static final int MAX = Integer.MAX_VALUE;
    private static final int MIN = Integer.MIN_VALUE;

    public static void main(String[] args) {
        Due due = new Due();
        insureBounds(due);
        insureTape(due);
        insureAnswers(due);
        insureOfLikeOnes(due);
        roundFigureBounds(due);
        roundFigureAnswers(due);
        ruinBounds(due);
        ruinTape(due);
        ruinAnswers(due);
        ruinRounds(due);
        carriedBounds(due);
        carriedMinutes(due);
        carriedAnswers(due);
        premiumBounds(due);
        premiumTenths(due);
        premiumAnswers(due);
        due.end();
    }

    private static InsuredFlame fed(int... bytes) {
        InsuredFlame x = new InsuredFlame();
        Due.fed(x, bytes);
        return x;
    }

    /** So many times the same bytes. */
    private static int[] times(int many, int... bytes) {
        int[] all = new int[many * bytes.length];
        for (int k = 0; k < all.length; k++) {
            all[k] = bytes[k % bytes.length];
        }
        return all;
    }

    private static void insured(Due due, int much, int[] wants, int... bytes) {
        for (int what = 0; what < 3; what++) {
            due.is("insure " + bytes.length / 2 + " for " + much + ", " + what, fed(bytes).insure(bytes.length / 2, much, what), wants[what]);
        }
    }

    private static void insureBounds(Due due) {
        due.sentence("promise 17: n 1 to 10");
        insured(due, 2550, new int[] {7, 5, 1}, 7, 5);
        insured(due, 2550, new int[] {70, 50, 1023}, times(10, 7, 5));
        due.sentence("promise 17: NONE: no such ones (n; the tape stays)");
        InsuredFlame x = fed(times(20, 1, 1));
        for (int n : new int[] {0, -1, -10, 11, 20, 1 << 30, MAX, MIN, MIN + 1}) {
            due.is("insure " + n, x.insure(n, 5, 0), -1);
            due.is("count 7", x.count(7), 40);
        }
        due.sentence("promise 17: for so much (0 to 2550)");
        due.is("0", fed(9, 0).insure(1, 0, 0), 9);
        due.is("2550", fed(times(10, 255, 255)).insure(10, 2550, 2), 1023);
        due.is("2549", fed(times(10, 255, 255)).insure(10, 2549, 0), 2295);
        due.sentence("promise 17: NONE: no such ones (so much; the tape stays)");
        for (int much : new int[] {-1, 2551, 5000, MAX, MIN}) {
            due.is("insure 1 for " + much, x.insure(1, much, 0), -1);
            due.is("count 7", x.count(7), 40);
        }
        due.sentence("promise 17: NONE: no such ones (what; the tape stays)");
        for (int what : new int[] {-1, 3, 4, MAX, MIN}) {
            due.is("insure 1, " + what, x.insure(1, 1, what), -1);
            due.is("count 7", x.count(7), 40);
        }
        due.is("the bytes stay", x.insure(10, 9, 0), 9);
    }

    private static void insureTape(Due due) {
        due.sentence("promise 17: NONE: it has not so many");
        InsuredFlame x = new InsuredFlame();
        for (int n = 1; n <= 10; n++) {
            due.is("insure " + n + " of none", x.insure(n, 5, 0), -1);
        }
        due.sentence("promise 17: as many as it has (10 of 20 bytes)");
        due.is("insure 10", fed(times(10, 1, 1)).insure(10, 2550, 0), 10);
        due.sentence("promise 17: by the first 2 n bytes of the tape");
        due.is("insure 1", fed(3, 1, 200, 1).insure(1, 2550, 0), 3);
        due.is("insure 2", fed(3, 1, 200, 1).insure(2, 2550, 0), 203);
        due.sentence("promise 17: empty then");
        for (int what = 0; what < 3; what++) {
            InsuredFlame y = fed(times(50, 3, 1));
            y.insure(1, 0, what);
            due.is("count 7", y.count(7), 0);
        }
    }

    private static void insureAnswers(Due due) {
        due.sentence("INSURE: a worth (0 to 255), a premium (0 to 255)");
        insured(due, 1, new int[] {1, 1, 1}, 1, 1);
        insured(due, 0, new int[] {1, 0, 1}, 1, 0);
        insured(due, 255, new int[] {255, 255, 1}, 255, 255);
        insured(due, 254, new int[] {0, 0, 0}, 255, 255);
        insured(due, 2550, new int[] {2550, 2550, 1023}, times(10, 255, 255));
        insured(due, 0, new int[] {2550, 0, 1023}, times(10, 255, 0));
        due.sentence("INSURE: none");
        insured(due, 0, new int[] {0, 0, 0}, 9, 1);
        insured(due, 4, new int[] {0, 0, 0}, 9, 5, 8, 6);
        due.sentence("INSURE: those whose worth together is most, for as much, not more");
        insured(due, 10, new int[] {25, 9, 5}, 10, 5, 20, 10, 15, 4);
        insured(due, 9, new int[] {25, 9, 5}, 10, 5, 20, 10, 15, 4);
        insured(due, 8, new int[] {15, 4, 4}, 10, 5, 20, 10, 15, 4);
        insured(due, 14, new int[] {35, 14, 6}, 10, 5, 20, 10, 15, 4);
        insured(due, 13, new int[] {25, 9, 5}, 10, 5, 20, 10, 15, 4);
        insured(due, 19, new int[] {45, 19, 7}, 10, 5, 20, 10, 15, 4);
    }

    private static void insureOfLikeOnes(Due due) {
        due.sentence("INSURE: of like ones the least premium");
        insured(due, 5, new int[] {7, 3, 4}, 7, 5, 7, 4, 7, 3);
        insured(due, 9, new int[] {7, 3, 1}, 7, 3, 7, 9, 7, 8);
        insured(due, 6, new int[] {9, 5, 4}, 4, 3, 5, 3, 9, 5);
        insured(due, 9, new int[] {7, 0, 1}, 7, 0, 0, 5);
        due.sentence("INSURE: then the least bits");
        insured(due, 3, new int[] {7, 3, 1}, 7, 3, 7, 3, 7, 3);
        insured(due, 6, new int[] {8, 6, 3}, times(4, 4, 3));
        insured(due, 6, new int[] {9, 6, 3}, 4, 3, 5, 3, 9, 6);
        insured(due, 6, new int[] {9, 6, 1}, 9, 6, 4, 3, 5, 3);
        due.sentence("INSURE: a thing of worth 0, premium 0 is left out");
        insured(due, 9, new int[] {0, 0, 0}, times(10, 0, 0));
        insured(due, 9, new int[] {7, 3, 2}, 0, 0, 7, 3, 0, 0);
        due.sentence("INSURE: the tenth thing is bit 9");
        int[] bytes = times(10, 1, 9);
        bytes[18] = 2;
        insured(due, 9, new int[] {2, 9, 512}, bytes);
    }

    private static void roundFigureBounds(Due due) {
        due.sentence("promise 18: a number (1 to 999999)");
        InsuredFlame x = new InsuredFlame();
        due.is("roundFigure 1", x.roundFigure(1), 1);
        due.is("roundFigure 999999", x.roundFigure(999999), 1000000);
        due.sentence("promise 18: NONE: no such number");
        for (int v : new int[] {0, -1, -5, 1000000, 1000001, 2000000, MAX, MIN}) {
            due.is("roundFigure " + v, x.roundFigure(v), -1);
        }
    }

    private static void roundFigureAnswers(Due due) {
        due.sentence("ROUND FIGURES: 1, 2, 5 times 1, 10, 100 .. themselves");
        int[] figures = {1, 2, 5, 10, 20, 50, 100, 200, 500, 1000, 2000, 5000, 10000, 20000, 50000, 100000, 200000, 500000, 1000000};
        InsuredFlame x = new InsuredFlame();
        for (int k = 0; k < figures.length - 1; k++) {
            due.is("roundFigure " + figures[k], x.roundFigure(figures[k]), figures[k]);
        }
        due.sentence("ROUND FIGURES: the nearest; of like ones the lower");
        for (int k = 0; k < figures.length - 1; k++) {
            int middle = (figures[k] + figures[k + 1]) / 2;
            boolean isLike = 2 * middle == figures[k] + figures[k + 1];
            due.is("roundFigure " + middle + (isLike ? ", like ones" : ""), x.roundFigure(middle), figures[k]);
            due.is("roundFigure " + (middle + 1), x.roundFigure(middle + 1), figures[k + 1]);
        }
        due.sentence("ROUND FIGURES: all numbers, by the nearest of all figures");
        int below = 0;
        for (int v = 1; v <= 999999; v++) {
            x = v % 500 == 1 ? new InsuredFlame() : x;
            below += v == figures[below + 1] ? 1 : 0;
            int want = v - figures[below] <= figures[below + 1] - v ? figures[below] : figures[below + 1];
            due.is("roundFigure " + v, x.roundFigure(v), want);
        }
    }

    private static void ruined(Due due, int n, int first, int bits, int... bytes) {
        due.is("ruin of " + n + " by " + first + ", which", fed(bytes).ruin(n, first, 1), bits);
        due.is("ruin of " + n + " by " + first + ", how many", fed(bytes).ruin(n, first, 0), Integer.bitCount(bits));
    }

    private static void ruinBounds(Due due) {
        due.sentence("promise 19: n companies (2 to 6), the first one lost (0 to n - 1)");
        for (int n = 2; n <= 6; n++) {
            for (int first = 0; first < n; first++) {
                ruined(due, n, first, 1 << first, new int[n * n]);
            }
        }
        due.sentence("promise 19: NONE: no such ones (n; the tape stays)");
        InsuredFlame x = fed(new int[100]);
        for (int n : new int[] {0, 1, -1, -2, 7, 8, 65536, 46341, MAX, MIN}) {
            due.is("ruin " + n, x.ruin(n, 0, 0), -1);
            due.is("count 7", x.count(7), 100);
        }
        due.sentence("promise 19: NONE: no such ones (the first; the tape stays)");
        for (int n = 2; n <= 6; n++) {
            for (int first : new int[] {-1, n, n + 1, 32, MAX, MIN}) {
                due.is("ruin " + n + " by " + first, x.ruin(n, first, 1), -1);
                due.is("count 7", x.count(7), 100);
            }
        }
        due.sentence("promise 19: NONE: no such ones (what; the tape stays)");
        for (int what : new int[] {-1, 2, 3, MAX, MIN}) {
            due.is("ruin 2, " + what, x.ruin(2, 0, what), -1);
            due.is("count 7", x.count(7), 100);
        }
    }

    private static void ruinTape(Due due) {
        due.sentence("promise 19: NONE: it has not so many (the tape stays)");
        InsuredFlame x = new InsuredFlame();
        due.is("ruin 2 of none", x.ruin(2, 0, 0), -1);
        Due.fed(x, new int[20]);
        due.is("ruin 5 of 20", x.ruin(5, 0, 0), -1);
        due.is("ruin 6 of 20", x.ruin(6, 0, 0), -1);
        due.is("count 7", x.count(7), 20);
        due.is("ruin 4 of 20", x.ruin(4, 0, 0), 1);
        due.sentence("promise 19: empty then");
        due.is("count 7", x.count(7), 0);
        for (int what = 0; what < 2; what++) {
            InsuredFlame y = fed(new int[260]);
            due.is("ruin 6 of 260", y.ruin(6, 0, what), 1);
            due.is("count 7", y.count(7), 0);
        }
        due.sentence("promise 19: by the first n n bytes of the tape, row by row");
        ruined(due, 2, 0, 1, 0, 0, 0, 0, 9, 9, 9, 9);
        ruined(due, 3, 0, 3, 0, 0, 0, 0, 4, 5, 0, 0, 0);
        ruined(due, 3, 0, 5, 0, 0, 0, 0, 0, 0, 0, 5, 4);
    }

    private static void ruinAnswers(Due due) {
        due.sentence("RUIN: what it has (0 to 255), owes others (0 to 255): it pays just so much, not one more");
        ruined(due, 3, 0, 1, 0, 0, 0, 0, 255, 255, 0, 0, 0);
        ruined(due, 3, 0, 3, 0, 0, 0, 0, 254, 255, 0, 0, 0);
        ruined(due, 3, 0, 1, 0, 0, 0, 0, 0, 255, 0, 255, 0);
        ruined(due, 3, 0, 3, 0, 0, 0, 0, 0, 255, 0, 254, 1);
        ruined(due, 3, 0, 1, 0, 0, 0, 0, 0, 0, 0, 0, 0);
        due.sentence("RUIN: six companies with 255 each way");
        int[] all = times(36, 255);
        ruined(due, 6, 3, 8, all);
        int[] poor = new int[36];
        for (int j = 1; j < 6; j++) {
            poor[6 + j] = 255;
        }
        poor[7] = 0;
        ruined(due, 6, 0, 3, poor);
        due.sentence("RUIN: one is lost at first (owes all, pays none), though it could pay");
        ruined(due, 2, 0, 1, 255, 0, 0, 255);
        ruined(due, 2, 1, 2, 255, 0, 0, 255);
        due.sentence("RUIN: what is owed to one that is lost need not be paid");
        ruined(due, 2, 0, 1, 0, 0, 255, 0);
        due.sentence("RUIN: what one owes that is lost does not come");
        ruined(due, 3, 0, 3, 9, 9, 0, 0, 0, 5, 0, 0, 0);
        ruined(due, 3, 2, 4, 9, 9, 0, 0, 0, 5, 0, 0, 0);
    }

    private static void ruinRounds(Due due) {
        due.sentence("RUIN: round by round, till none is any more: five of six, one a round");
        int[] chain = new int[36];
        for (int i = 0; i < 6; i++) {
            chain[6 * i + (i + 1) % 6] = 5;
        }
        for (int first = 0; first < 6; first++) {
            ruined(due, 6, first, 63 - (1 << (first + 5) % 6), chain);
        }
        int[] back = new int[36];
        for (int i = 0; i < 6; i++) {
            back[6 * ((i + 1) % 6) + i] = 5;
        }
        for (int first = 0; first < 6; first++) {
            ruined(due, 6, first, 63 - (1 << (first + 1) % 6), back);
        }
        due.sentence("RUIN: one that has enough ends it");
        chain[21] = 5;
        ruined(due, 6, 0, 7, chain);
        chain[21] = 4;
        ruined(due, 6, 0, 31, chain);
        due.sentence("RUIN: all at once: two that can't pay in one round are lost, though one could without the other");
        ruined(due, 4, 0, 7, 0, 0, 0, 0, 0, 1, 2, 0, 0, 0, 0, 5, 0, 0, 0, 0);
        ruined(due, 4, 0, 7, 0, 0, 0, 0, 0, 0, 0, 5, 0, 2, 1, 0, 0, 0, 0, 0);
        due.sentence("RUIN: one that could not pay anyhow is lost, too");
        ruined(due, 3, 2, 5, 0, 1, 0, 0, 0, 0, 0, 0, 0);
    }

    private static void carries(Due due, int worth, int... bytes) {
        InsuredFlame x = fed(bytes);
        due.is("carried of " + bytes.length / 3, x.carried(bytes.length / 3), worth);
        due.is("empty then", x.count(7), 0);
    }

    private static void carriedBounds(Due due) {
        due.sentence("promise 20: n 1 to 10");
        carries(due, 9, 1, 9, 1);
        carries(due, 90, times(10, 1, 9, 10));
        due.sentence("promise 20: NONE: no such n (the tape stays)");
        InsuredFlame x = fed(times(20, 1, 1, 1));
        for (int n : new int[] {0, -1, 11, 12, 20, 1 << 30, 0x55555556, MAX, MIN}) {
            due.is("carried " + n, x.carried(n), -1);
            due.is("count 7", x.count(7), 60);
        }
        due.sentence("promise 20: NONE: it has not so many (the tape stays)");
        InsuredFlame y = new InsuredFlame();
        due.is("carried 1 of none", y.carried(1), -1);
        Due.fed(y, times(6, 1, 9, 10));
        for (int n = 7; n <= 10; n++) {
            due.is("carried " + n + " of 20", y.carried(n), -1);
        }
        due.is("count 7", y.count(7), 20);
        due.is("carried 6 of 20", y.carried(6), 54);
        due.sentence("promise 20: by the first 3 n bytes of the tape");
        due.is("carried 1", fed(1, 9, 1, 1, 90, 9).carried(1), 9);
        due.is("carried 1, one of no minute behind it", fed(1, 9, 1, 0, 90, 9).carried(1), 9);
        due.sentence("promise 20: empty then");
        InsuredFlame z = fed(times(80, 1, 9, 10));
        due.is("carried 1 of 240", z.carried(1), 9);
        due.is("count 7", z.count(7), 0);
    }

    private static void carriedMinutes(Due due) {
        due.sentence("CARRIED: each takes so many minutes (1 to 60)");
        carries(due, 9, 1, 9, 255);
        carries(due, 9, 60, 9, 255);
        due.sentence("promise 20: -2: one that takes no minute (empty then)");
        carries(due, -2, 0, 9, 255);
        carries(due, -2, 1, 9, 1, 0, 0, 0);
        carries(due, -2, 0, 9, 1, 1, 9, 1);
        due.sentence("promise 20: -2: one that takes more than 60 (empty then)");
        carries(due, -2, 61, 9, 255);
        carries(due, -2, 255, 9, 255);
        carries(due, -2, 1, 9, 1, 61, 9, 1);
        carries(due, -2, 128, 9, 1);
        for (int wrong = 0; wrong < 10; wrong++) {
            int[] bytes = times(10, 1, 9, 10);
            bytes[3 * wrong] = wrong % 2 == 0 ? 0 : 61;
            carries(due, -2, bytes);
        }
    }

    private static void carriedAnswers(Due due) {
        due.sentence("CARRIED: must be out by a minute (0 to 255): at it, not behind it");
        carries(due, 9, 5, 9, 5);
        carries(due, 0, 5, 9, 4);
        carries(due, 0, 1, 9, 0);
        carries(due, 18, 5, 9, 5, 5, 9, 10);
        carries(due, 9, 5, 9, 5, 5, 9, 9);
        carries(due, 1020, times(10, 60, 255, 255));
        due.sentence("CARRIED: worth so much (0 to 255), the most of all");
        carries(due, 0, 1, 0, 255);
        carries(due, 255, 1, 255, 255);
        carries(due, 2550, times(10, 1, 255, 10));
        carries(due, 2295, times(10, 1, 255, 9));
        due.sentence("CARRIED: in any order");
        carries(due, 30, 4, 10, 12, 4, 10, 8, 4, 10, 4);
        carries(due, 30, 4, 10, 4, 4, 10, 12, 4, 10, 8);
        carries(due, 55, 10, 10, 55, 9, 9, 45, 8, 8, 36, 7, 7, 28, 6, 6, 21, 5, 5, 15, 4, 4, 10, 3, 3, 6, 2, 2, 3, 1, 1, 1);
        due.sentence("CARRIED: the most worth, not the most things");
        carries(due, 17, 5, 10, 5, 3, 7, 8, 4, 9, 6);
        carries(due, 100, 10, 100, 10, 3, 9, 9, 3, 9, 9, 3, 9, 9);
        carries(due, 27, 10, 26, 10, 3, 9, 9, 3, 9, 9, 3, 9, 9);
    }

    private static void premiums(Due due, int mean, int odds, int... bytes) {
        for (int what = 0; what < 2; what++) {
            InsuredFlame x = fed(bytes);
            due.is("premium of " + bytes.length / 2 + ", " + what, x.premium(bytes.length / 2, what), what == 0 ? mean : odds);
            due.is("empty then", x.count(7), 0);
        }
    }

    private static void premiumBounds(Due due) {
        due.sentence("promise 21: n 1 to 8");
        premiums(due, 21, 3, 7, 3);
        premiums(due, 168, 6561, times(8, 7, 3));
        due.sentence("promise 21: NONE: no such ones (n; the tape stays)");
        InsuredFlame x = fed(times(20, 1, 1));
        for (int n : new int[] {0, -1, -8, 9, 10, 20, 1 << 30, MAX, MIN, MIN + 1}) {
            due.is("premium " + n, x.premium(n, 0), -1);
            due.is("count 7", x.count(7), 40);
        }
        due.sentence("promise 21: NONE: no such ones (what; the tape stays)");
        for (int what : new int[] {-1, 2, 3, MAX, MIN}) {
            due.is("premium 1, " + what, x.premium(1, what), -1);
            due.is("count 7", x.count(7), 40);
        }
        due.sentence("promise 21: NONE: it has not so many");
        InsuredFlame y = new InsuredFlame();
        for (int n = 1; n <= 8; n++) {
            due.is("premium " + n + " of none", y.premium(n, 0), -1);
        }
        due.sentence("promise 21: by the first 2 n bytes of the tape, empty then");
        InsuredFlame z = fed(7, 3, 9, 11);
        due.is("premium 1", z.premium(1, 0), 21);
        due.is("count 7", z.count(7), 0);
        InsuredFlame w = fed(times(130, 7, 3));
        due.is("premium 8 of 260", w.premium(8, 1), 6561);
        due.is("count 7", w.count(7), 0);
    }

    private static void premiumTenths(Due due) {
        due.sentence("PREMIUM: lost in so many tenths (0 to 10)");
        for (int tenths = 0; tenths <= 10; tenths++) {
            premiums(due, 255 * tenths, tenths, 255, tenths);
        }
        due.sentence("promise 21: -2: tenths above 10 (empty then)");
        for (int tenths : new int[] {11, 12, 100, 127, 128, 255}) {
            premiums(due, -2, -2, 255, tenths);
        }
        for (int wrong = 0; wrong < 8; wrong++) {
            int[] bytes = times(8, 7, 0);
            bytes[2 * wrong + 1] = 11;
            premiums(due, -2, -2, bytes);
        }
    }

    private static void premiumAnswers(Due due) {
        due.sentence("PREMIUM: the mean lost in tenths");
        premiums(due, 250, 50, 10, 5, 20, 10);
        premiums(due, 0, 10, 0, 10);
        premiums(due, 20400, 100000000, times(8, 255, 10));
        due.sentence("PREMIUM: the odds that all are lost, in 10 to the n-th");
        premiums(due, 70, 210, 5, 5, 3, 6, 1, 7, 20, 1);
        premiums(due, 2550, 0, 255, 10, 255, 0);
        premiums(due, 0, 1, times(8, 0, 1));
        premiums(due, 0, 0, times(8, 255, 0));
        premiums(due, 0, 10000000, 0, 10, 0, 10, 0, 10, 0, 10, 0, 10, 0, 10, 0, 10, 0, 1);
    }
}
